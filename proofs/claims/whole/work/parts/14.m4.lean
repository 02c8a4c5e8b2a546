theorem n2lt : (-2 : Int32) < 0 := by decide
theorem chO_neg {ar : Nat → Nat → Int32} {i : Nat} (h : ar 24 i < 0 ∨ ar 29 (cl (ar 24 i)) < 0) : chO ar i = -1 := by unfold chO; rw [if_pos h]
theorem chO_pos {ar : Nat → Nat → Int32} {i : Nat} (h : ¬ (ar 24 i < 0 ∨ ar 29 (cl (ar 24 i)) < 0)) : chO ar i = ar 34 (cl (ar 29 (cl (ar 24 i)))) := by unfold chO; rw [if_neg h]
set_option maxHeartbeats 4000000 in
set_option maxRecDepth 100000 in
theorem cM_chestOf {l : Launch} {D : va_G} {cy : Nat → ClassId} {s0 : State} {ad : zA} {N : Nat → Nat} {sc : Nat → Int32} {ar : Nat → Nat → Int32} {n : Nat}  (hI : MI N sc ar) (hn : n < N 4) : zM l D cy s0 yX10_chestOf cX10_chestOf 3 (some .int) 1 0 0 [.ref (ad 30 0), .int (nI n)] ad (mW cy ad sc ar) (zPi (chO ar n) ad (mW cy ad sc ar)) := by
  refine zM_of (own := RX10) rfl (by decide) (by simp [Value.category]) (Nat.le_of_ble_eq_true rfl) ?_
  intro X hB
  show V X RX10 cX10_chestOf 3 (some .int) 0 0 ad (mW cy ad sc ar) 0 [some (.ref (ad 30 0)), some (.int (nI n)), none] []
  obtain ⟨⟨hN, b2, b3, b4, b5, b6, b7, b8, b9, b10⟩, hS, hQ, hBl, hCh, hZ⟩ := id hI
  obtain ⟨-, -, -, -, -, -, hq⟩ := hS n hn
  refine v_aload_n dX10_chestOf_0 rfl ?_
  refine mg63 dX10_chestOf_1 ?_
  refine v_iload_n dX10_chestOf_4 rfl ?_
  refine m_ldN 24 (L := 200) hB.cy ⟨rfl, rfl, rfl⟩ rfl (by omega) (by decide) dX10_chestOf_5 ?_
  refine v_istore_n2 dX10_chestOf_6 (by decide) ?_
  refine v_iload_n dX10_chestOf_7 rfl ?_
  refine v_if_lt (tgt := 20) dX10_chestOf_8 (by decide) (fun h8 => ?_) (fun h8 => ?_)
  · refine v_iconst_v (v := -1) dX10_chestOf_20 (by decide) ?_
    refine v_goto (tgt := 35) dX10_chestOf_21 (by decide) ?_
    exact v_iret hB (by decide) (by decide) dX10_chestOf_35 ⟨congrArg (fun z => some (Value.int z)) (by first | (rw [chO_neg (Or.inl h8)]; done) | (rw [chO_neg (Or.inr (by rw [ec]; exact i_nle.mp h17))]; done) | (rw [chO_pos (by rw [ec]; exact fun z => z.elim h8 (i_nlt.mpr h17)), ec, hb2, cl_nI (by omega)])), rfl, rfl⟩
  · obtain ⟨q, hq1, hq2⟩ : ∃ q, q < N 5 ∧ ar 24 n = nI q := by
      rcases hq with e | e
      · exact absurd (show ar 24 n < 0 by rw [e]; exact n2lt) h8
      · exact e
    obtain ⟨-, -, hbq⟩ := hQ q hq1
    have ec : cl (ar 24 n) = q := by rw [hq2, cl_nI (by omega)]
    refine v_aload_n dX10_chestOf_11 rfl ?_
    refine mg78 dX10_chestOf_12 ?_
    refine v_iload_n dX10_chestOf_15 rfl ?_
    refine m_ldN 29 (L := 120) hB.cy ⟨rfl, rfl, rfl⟩ hq2 (by omega) (by decide) dX10_chestOf_16 ?_
    refine v_if_ge (tgt := 24) dX10_chestOf_17 (by decide) (fun h17 => ?_) (fun h17 => ?_)
    · obtain ⟨b, hb1, hb2⟩ : ∃ b, b < N 6 ∧ ar 29 q = nI b := by
        rcases hbq with e | e
        · exact absurd (show ar 29 q < 0 by rw [e]; exact n2lt) (i_nlt.mpr h17)
        · exact e
      refine v_aload_n dX10_chestOf_24 rfl ?_
      refine mg93 dX10_chestOf_25 ?_
      refine v_aload_n dX10_chestOf_28 rfl ?_
      refine mg78 dX10_chestOf_29 ?_
      refine v_iload_n dX10_chestOf_32 rfl ?_
      refine m_ldN 29 (L := 120) hB.cy ⟨rfl, rfl, rfl⟩ hq2 (by omega) (by decide) dX10_chestOf_33 ?_
      refine m_ldN 34 (L := 60) hB.cy ⟨rfl, rfl, rfl⟩ hb2 (by omega) (by decide) dX10_chestOf_34 ?_
      exact v_iret hB (by decide) (by decide) dX10_chestOf_35 ⟨congrArg (fun z => some (Value.int z)) (by first | (rw [chO_neg (Or.inl h8)]; done) | (rw [chO_neg (Or.inr (by rw [ec]; exact i_nle.mp h17))]; done) | (rw [chO_pos (by rw [ec]; exact fun z => z.elim h8 (i_nlt.mpr h17)), ec, hb2, cl_nI (by omega)])), rfl, rfl⟩
    · refine v_iconst_v (v := -1) dX10_chestOf_20 (by decide) ?_
      refine v_goto (tgt := 35) dX10_chestOf_21 (by decide) ?_
      exact v_iret hB (by decide) (by decide) dX10_chestOf_35 ⟨congrArg (fun z => some (Value.int z)) (by first | (rw [chO_neg (Or.inl h8)]; done) | (rw [chO_neg (Or.inr (by rw [ec]; exact i_nle.mp h17))]; done) | (rw [chO_pos (by rw [ec]; exact fun z => z.elim h8 (i_nlt.mpr h17)), ec, hb2, cl_nI (by omega)])), rfl, rfl⟩

def shF (ar : Nat → Nat → Int32) (g c : Int32) (i : Nat) : Int32 := if ar 19 i = g ∧ chO ar i = c then ar 20 i else 0
theorem sh_pos {ar : Nat → Nat → Int32} {g c : Int32} {i : Nat} (h1 : ar 19 i = g) (h2 : chO ar i = c) : smI (shF ar g c) i + ar 20 i = smI (shF ar g c) (i + 1) := by
  show _ = smI (shF ar g c) i + (if ar 19 i = g ∧ chO ar i = c then ar 20 i else 0)
  rw [if_pos ⟨h1, h2⟩]
theorem sh_n1 {ar : Nat → Nat → Int32} {g c : Int32} {i : Nat} (h1 : ¬ ar 19 i = g) : smI (shF ar g c) i + 0 = smI (shF ar g c) (i + 1) := by
  show _ = smI (shF ar g c) i + (if ar 19 i = g ∧ chO ar i = c then ar 20 i else 0)
  rw [if_neg (fun z => h1 z.1)]
theorem sh_n2 {ar : Nat → Nat → Int32} {g c : Int32} {i : Nat} (h1 : ¬ chO ar i = c) : smI (shF ar g c) i + 0 = smI (shF ar g c) (i + 1) := by
  show _ = smI (shF ar g c) i + (if ar 19 i = g ∧ chO ar i = c then ar 20 i else 0)
  rw [if_neg (fun z => h1 z.2)]
set_option maxHeartbeats 4000000 in
set_option maxRecDepth 100000 in
theorem cM_share {l : Launch} {D : va_G} {cy : Nat → ClassId} {s0 : State} {ad : zA} {N : Nat → Nat} {sc : Nat → Int32} {ar : Nat → Nat → Int32} {c g : Int32}  (hI : MI N (upd sc 0 0) ar) : zM l D cy s0 yX10_share cX10_share 5 (some .int) 4 0 0 [.ref (ad 30 0), .int c, .int g] ad (mW cy ad sc ar) (zPi (v_share c g (upd sc 0 0) ar) ad (mW cy ad (upd sc 0 0) ar)) := by
  refine zM_of (own := RX10) rfl (by decide) (by simp [Value.category]) (Nat.le_of_ble_eq_true rfl) ?_
  intro X hB
  show V X RX10 cX10_share 5 (some .int) 0 0 ad (mW cy ad sc ar) 0 [some (.ref (ad 30 0)), some (.int c), some (.int g), none, none] []
  refine v_aload_n dX10_share_0 rfl ?_
  refine v_iconst_v (v := 0) dX10_share_1 (by decide) ?_
  refine mp1 dX10_share_2 ?_
  generalize upd sc 0 0 = sc at hI hB ⊢
  obtain ⟨⟨hN, b2, b3, b4, b5, b6, b7, b8, b9, b10⟩, hS, hQ, hBl, hCh, hZ⟩ := id hI
  refine v_iload_n dX10_share_5 rfl ?_
  refine v_if_lt (tgt := 25) dX10_share_6 (by decide) (fun h6 => ?_) (fun h6 => ?_)
  · refine v_iconst_v (v := -1) dX10_share_25 (by decide) ?_
    exact v_iret hB (by decide) (by decide) dX10_share_26 ⟨congrArg (fun z => some (Value.int z)) (by unfold v_share; first | rw [if_neg (fun z => (i_nlt.mpr z.1.1) h6)] | rw [if_neg (fun z => (i_nle.mpr z.1.2) h14)] | rw [if_neg (fun z => h22 z.2)]), rfl, rfl⟩
  · refine v_iload_n dX10_share_9 rfl ?_
    refine v_aload_n dX10_share_10 rfl ?_
    refine mg208 dX10_share_11 ?_
    refine v_icmp_ge (tgt := 25) dX10_share_14 (by decide) (fun h14 => ?_) (fun h14 => ?_)
    · refine v_iconst_v (v := -1) dX10_share_25 (by decide) ?_
      exact v_iret hB (by decide) (by decide) dX10_share_26 ⟨congrArg (fun z => some (Value.int z)) (by unfold v_share; first | rw [if_neg (fun z => (i_nlt.mpr z.1.1) h6)] | rw [if_neg (fun z => (i_nle.mpr z.1.2) h14)] | rw [if_neg (fun z => h22 z.2)]), rfl, rfl⟩
    · refine v_aload_n dX10_share_17 rfl ?_
      refine v_iload_n dX10_share_18 rfl ?_
      refine v_cVi1 hB k_X10_157 cM_isGarden (by decide) ⟨by decide, by decide⟩ rfl rfl (Nat.le_of_ble_eq_true rfl) dX10_share_19 ?_
      refine v_if_ne (tgt := 27) dX10_share_22 (by decide) (fun h22 => ?_) (fun h22 => ?_)
      · rw [bI_ne] at h22
        have hcr : 0 ≤ c ∧ c < sc 7 := ⟨i_nlt.mp h6, i_nle.mp h14⟩
        have loop : ∀ (m : Nat) (i : Nat), N 4 < i + m → i ≤ N 4 → V X RX10 cX10_share 5 (some .int) 0 0 ad (mW cy ad sc ar) 32 [some (.ref (ad 30 0)), some (.int c), some (.int g), some (.int (smI (shF ar g c) i)), some (.int (nI i))] [] := by
          intro m
          induction m with
          | zero => intro i h1 h2; omega
          | succ m ih =>
            intro i h1 h2
            refine v_iload dX10_share_32 rfl ?_
            refine v_aload_n dX10_share_34 rfl ?_
            refine mg129 dX10_share_35 ?_
            refine v_icmp_ge (tgt := 82) dX10_share_38 (by decide) (fun h38 => ?_) (fun h38 => ?_)
            · rw [hN 4 (by decide) (by decide), nI_leI (by omega) (by omega)] at h38
              refine v_iload_n dX10_share_82 rfl ?_
              exact v_iret hB (by decide) (by decide) dX10_share_83 ⟨congrArg (fun z => some (Value.int z)) (by unfold v_share; rw [if_pos ⟨hcr, h22⟩, hN 4 (by decide) (by decide), cl_nI (by omega), show i = N 4 by omega]; rfl), rfl, rfl⟩
            · rw [hN 4 (by decide) (by decide), nI_leI (by omega) (by omega)] at h38
              refine v_iload_n dX10_share_41 rfl ?_
              refine v_aload_n dX10_share_42 rfl ?_
              refine mg48 dX10_share_43 ?_
              refine v_iload dX10_share_46 rfl ?_
              refine m_ldN 19 (L := 200) hB.cy ⟨rfl, rfl, rfl⟩ rfl (by omega) (by decide) dX10_share_48 ?_
              refine v_iload_n dX10_share_49 rfl ?_
              refine v_icmp_ne (tgt := 73) dX10_share_50 (by decide) (fun h50 => ?_) (fun h50 => ?_)
              · refine v_iconst_v (v := 0) dX10_share_73 (by decide) ?_
                refine v_iadd dX10_share_74 ?_
                first | refine v_eq (sh_pos h50 h60) ?_ | refine v_eq (sh_n1 h50) ?_ | refine v_eq (sh_n2 h60) ?_
                refine v_istore_n3 dX10_share_75 (by decide) ?_
                refine v_iinc4 (v := 1) dX10_share_76 (by decide) (by decide) ?_
                rw [nI_1]
                refine v_goto (tgt := 32) dX10_share_79 (by decide) ?_
                exact ih (i + 1) (by omega) (by omega)
              · refine v_aload_n dX10_share_53 rfl ?_
                refine v_iload dX10_share_54 rfl ?_
                refine v_cVi1 hB k_X10_214 (cM_chestOf hI (by omega)) (by decide) ⟨by decide, by decide⟩ rfl rfl (Nat.le_of_ble_eq_true rfl) dX10_share_56 ?_
                refine v_iload_n dX10_share_59 rfl ?_
                refine v_icmp_ne (tgt := 73) dX10_share_60 (by decide) (fun h60 => ?_) (fun h60 => ?_)
                · refine v_iconst_v (v := 0) dX10_share_73 (by decide) ?_
                  refine v_iadd dX10_share_74 ?_
                  first | refine v_eq (sh_pos h50 h60) ?_ | refine v_eq (sh_n1 h50) ?_ | refine v_eq (sh_n2 h60) ?_
                  refine v_istore_n3 dX10_share_75 (by decide) ?_
                  refine v_iinc4 (v := 1) dX10_share_76 (by decide) (by decide) ?_
                  rw [nI_1]
                  refine v_goto (tgt := 32) dX10_share_79 (by decide) ?_
                  exact ih (i + 1) (by omega) (by omega)
                · refine v_aload_n dX10_share_63 rfl ?_
                  refine mg51 dX10_share_64 ?_
                  refine v_iload dX10_share_67 rfl ?_
                  refine m_ldN 20 (L := 200) hB.cy ⟨rfl, rfl, rfl⟩ rfl (by omega) (by decide) dX10_share_69 ?_
                  refine v_goto (tgt := 74) dX10_share_70 (by decide) ?_
                  refine v_iadd dX10_share_74 ?_
                  first | refine v_eq (sh_pos h50 h60) ?_ | refine v_eq (sh_n1 h50) ?_ | refine v_eq (sh_n2 h60) ?_
                  refine v_istore_n3 dX10_share_75 (by decide) ?_
                  refine v_iinc4 (v := 1) dX10_share_76 (by decide) (by decide) ?_
                  rw [nI_1]
                  refine v_goto (tgt := 32) dX10_share_79 (by decide) ?_
                  exact ih (i + 1) (by omega) (by omega)
        refine v_iconst_v (v := 0) dX10_share_27 (by decide) ?_
        refine v_istore_n3 dX10_share_28 (by decide) ?_
        refine v_iconst_v (v := 0) dX10_share_29 (by decide) ?_
        refine v_istore4 dX10_share_30 (by decide) ?_
        exact loop (N 4 + 1) 0 (by omega) (by omega)
      · rw [bI_eq] at h22
        refine v_iconst_v (v := -1) dX10_share_25 (by decide) ?_
        exact v_iret hB (by decide) (by decide) dX10_share_26 ⟨congrArg (fun z => some (Value.int z)) (by unfold v_share; first | rw [if_neg (fun z => (i_nlt.mpr z.1.1) h6)] | rw [if_neg (fun z => (i_nle.mpr z.1.2) h14)] | rw [if_neg (fun z => h22 z.2)]), rfl, rfl⟩

theorem v_loc {X : zX} {own : String} {cc : ByteArray} {nL : Nat} {ret : Option FieldType} {n1 n2 : Nat} {ad : zA} {w : zW} {pc : Nat} {ls l2 : List (Option Value)} {st : List Value} (h : ls = l2) (k : V X own cc nL ret n1 n2 ad w pc l2 st) : V X own cc nL ret n1 n2 ad w pc ls st := h ▸ k
set_option maxHeartbeats 4000000 in
set_option maxRecDepth 100000 in
theorem cM_traced {l : Launch} {D : va_G} {cy : Nat → ClassId} {s0 : State} {ad : zA} {N : Nat → Nat} {sc : Nat → Int32} {ar : Nat → Nat → Int32} {g a b : Int32}  (hI : MI N (upd sc 0 0) ar) : zM l D cy s0 yX10_traced cX10_traced 6 (some .int) 4 0 0 [.ref (ad 30 0), .int g, .int a, .int b] ad (mW cy ad sc ar) (zPi (v_traced g a b (upd sc 0 0) ar) ad (mW cy ad (upd sc 0 0) ar)) := by
  refine zM_of (own := RX10) rfl (by decide) (by simp [Value.category]) (Nat.le_of_ble_eq_true rfl) ?_
  intro X hB
  show V X RX10 cX10_traced 6 (some .int) 0 0 ad (mW cy ad sc ar) 0 [some (.ref (ad 30 0)), some (.int g), some (.int a), some (.int b), none, none] []
  refine v_aload_n dX10_traced_0 rfl ?_
  refine v_iconst_v (v := 0) dX10_traced_1 (by decide) ?_
  refine mp1 dX10_traced_2 ?_
  generalize upd sc 0 0 = sc at hI hB ⊢
  obtain ⟨⟨hN, b2, b3, b4, b5, b6, b7, b8, b9, b10⟩, hS, hQ, hBl, hCh, hZ⟩ := id hI
  refine v_aload_n dX10_traced_5 rfl ?_
  refine v_iload_n dX10_traced_6 rfl ?_
  refine v_cVi1 hB k_X10_157 cM_isGarden (by decide) ⟨by decide, by decide⟩ rfl rfl (Nat.le_of_ble_eq_true rfl) dX10_traced_7 ?_
  refine v_if_ne (tgt := 15) dX10_traced_10 (by decide) (fun h10 => ?_) (fun h10 => ?_)
  · rw [bI_ne] at h10
    have loop : ∀ (m : Nat) (i : Nat), N 4 < i + m → i ≤ N 4 → V X RX10 cX10_traced 6 (some .int) 0 0 ad (mW cy ad sc ar) 22 [some (.ref (ad 30 0)), some (.int g), some (.int a), some (.int b), some (.int (trF ar g a b i)), some (.int (nI i))] [] := by
      intro m
      induction m with
      | zero => intro i h1 h2; omega
      | succ m ih =>
        intro i h1 h2
        refine v_iload dX10_traced_22 rfl ?_
        refine v_aload_n dX10_traced_24 rfl ?_
        refine mg129 dX10_traced_25 ?_
        refine v_icmp_ge (tgt := 102) dX10_traced_28 (by decide) (fun h28 => ?_) (fun h28 => ?_)
        · rw [hN 4 (by decide) (by decide), nI_leI (by omega) (by omega)] at h28
          refine v_iload dX10_traced_102 rfl ?_
          exact v_iret hB (by decide) (by decide) dX10_traced_104 ⟨congrArg (fun z => some (Value.int z)) (by unfold v_traced; rw [if_pos h10, hN 4 (by decide) (by decide), cl_nI (by omega), show i = N 4 by omega]), rfl, rfl⟩
        · rw [hN 4 (by decide) (by decide), nI_leI (by omega) (by omega)] at h28
          refine v_aload_n dX10_traced_31 rfl ?_
          refine mg48 dX10_traced_32 ?_
          refine v_iload dX10_traced_35 rfl ?_
          refine m_ldN 19 (L := 200) hB.cy ⟨rfl, rfl, rfl⟩ rfl (by omega) (by decide) dX10_traced_37 ?_
          refine v_iload_n dX10_traced_38 rfl ?_
          refine v_icmp_ne (tgt := 96) dX10_traced_39 (by decide) (fun h39 => ?_) (fun h39 => ?_)
          · 
            refine v_iinc5 (v := 1) dX10_traced_96 (by decide) (by decide) ?_
            rw [nI_1]
            refine v_goto (tgt := 22) dX10_traced_99 (by decide) ?_
            refine v_loc (l2 := [some (.ref (ad 30 0)), some (.int g), some (.int a), some (.int b), some (.int (trF ar g a b (i + 1))), some (.int (nI (i + 1)))]) ?_ (ih (i + 1) (by omega) (by omega))
            refine congrArg (fun z => [some (Value.ref (ad 30 0)), some (Value.int g), some (Value.int a), some (Value.int b), some (Value.int z), some (Value.int (nI (i + 1)))]) ?_
            rw [trF]
            first | (rw [if_neg (fun z => h39 z.1.1)]; done) | (rw [if_neg (fun z => h54 z.1.2.1)]; done) | (rw [if_neg (fun z => z.1.2.2 h64)]; done) | (rw [if_neg (fun z => z.2.elim h74 (i_nlt.mpr h85))]; done) | (rw [if_pos ⟨⟨h39, h54, h64⟩, Or.inl h74⟩]; done) | (rw [if_pos ⟨⟨h39, h54, h64⟩, Or.inr (i_nle.mp h85)⟩]; done)
          · refine v_aload_n dX10_traced_42 rfl ?_
            refine mg60 dX10_traced_43 ?_
            refine v_iload dX10_traced_46 rfl ?_
            refine m_ldN 23 (L := 200) hB.cy ⟨rfl, rfl, rfl⟩ rfl (by omega) (by decide) dX10_traced_48 ?_
            refine v_iload_n dX10_traced_49 rfl ?_
            refine v_iload_n dX10_traced_50 rfl ?_
            refine v_cSi3 hB k_X10_132 cM_in (by decide) ⟨by decide, by decide⟩ (Nat.le_of_ble_eq_true rfl) dX10_traced_51 ?_
            refine v_if_eq (tgt := 96) dX10_traced_54 (by decide) (fun h54 => ?_) (fun h54 => ?_)
            · rw [bI_eq] at h54
              
              refine v_iinc5 (v := 1) dX10_traced_96 (by decide) (by decide) ?_
              rw [nI_1]
              refine v_goto (tgt := 22) dX10_traced_99 (by decide) ?_
              refine v_loc (l2 := [some (.ref (ad 30 0)), some (.int g), some (.int a), some (.int b), some (.int (trF ar g a b (i + 1))), some (.int (nI (i + 1)))]) ?_ (ih (i + 1) (by omega) (by omega))
              refine congrArg (fun z => [some (Value.ref (ad 30 0)), some (Value.int g), some (Value.int a), some (Value.int b), some (Value.int z), some (Value.int (nI (i + 1)))]) ?_
              rw [trF]
              first | (rw [if_neg (fun z => h39 z.1.1)]; done) | (rw [if_neg (fun z => h54 z.1.2.1)]; done) | (rw [if_neg (fun z => z.1.2.2 h64)]; done) | (rw [if_neg (fun z => z.2.elim h74 (i_nlt.mpr h85))]; done) | (rw [if_pos ⟨⟨h39, h54, h64⟩, Or.inl h74⟩]; done) | (rw [if_pos ⟨⟨h39, h54, h64⟩, Or.inr (i_nle.mp h85)⟩]; done)
            · rw [bI_ne] at h54
              refine v_aload_n dX10_traced_57 rfl ?_
              refine v_iload dX10_traced_58 rfl ?_
              refine v_cVi1 hB k_X10_214 (cM_chestOf hI (by omega)) (by decide) ⟨by decide, by decide⟩ rfl rfl (Nat.le_of_ble_eq_true rfl) dX10_traced_60 ?_
              refine v_iconst_v (v := -1) dX10_traced_63 (by decide) ?_
              refine v_icmp_ne (tgt := 70) dX10_traced_64 (by decide) (fun h64 => ?_) (fun h64 => ?_)
              · refine v_iload dX10_traced_70 rfl ?_
                refine v_bipush_v (v := -2) dX10_traced_72 (by decide) ?_
                refine v_icmp_eq (tgt := 88) dX10_traced_74 (by decide) (fun h74 => ?_) (fun h74 => ?_)
                · refine v_aload_n dX10_traced_88 rfl ?_
                  refine v_iload dX10_traced_89 rfl ?_
                  refine v_cVi1 hB k_X10_214 (cM_chestOf hI (by omega)) (by decide) ⟨by decide, by decide⟩ rfl rfl (Nat.le_of_ble_eq_true rfl) dX10_traced_91 ?_
                  refine v_istore4 dX10_traced_94 (by decide) ?_
                  
                  refine v_iinc5 (v := 1) dX10_traced_96 (by decide) (by decide) ?_
                  rw [nI_1]
                  refine v_goto (tgt := 22) dX10_traced_99 (by decide) ?_
                  refine v_loc (l2 := [some (.ref (ad 30 0)), some (.int g), some (.int a), some (.int b), some (.int (trF ar g a b (i + 1))), some (.int (nI (i + 1)))]) ?_ (ih (i + 1) (by omega) (by omega))
                  refine congrArg (fun z => [some (Value.ref (ad 30 0)), some (Value.int g), some (Value.int a), some (Value.int b), some (Value.int z), some (Value.int (nI (i + 1)))]) ?_
                  rw [trF]
                  first | (rw [if_neg (fun z => h39 z.1.1)]; done) | (rw [if_neg (fun z => h54 z.1.2.1)]; done) | (rw [if_neg (fun z => z.1.2.2 h64)]; done) | (rw [if_neg (fun z => z.2.elim h74 (i_nlt.mpr h85))]; done) | (rw [if_pos ⟨⟨h39, h54, h64⟩, Or.inl h74⟩]; done) | (rw [if_pos ⟨⟨h39, h54, h64⟩, Or.inr (i_nle.mp h85)⟩]; done)
                · refine v_aload_n dX10_traced_77 rfl ?_
                  refine v_iload dX10_traced_78 rfl ?_
                  refine v_cVi1 hB k_X10_214 (cM_chestOf hI (by omega)) (by decide) ⟨by decide, by decide⟩ rfl rfl (Nat.le_of_ble_eq_true rfl) dX10_traced_80 ?_
                  refine v_iload dX10_traced_83 rfl ?_
                  refine v_icmp_ge (tgt := 96) dX10_traced_85 (by decide) (fun h85 => ?_) (fun h85 => ?_)
                  · 
                    refine v_iinc5 (v := 1) dX10_traced_96 (by decide) (by decide) ?_
                    rw [nI_1]
                    refine v_goto (tgt := 22) dX10_traced_99 (by decide) ?_
                    refine v_loc (l2 := [some (.ref (ad 30 0)), some (.int g), some (.int a), some (.int b), some (.int (trF ar g a b (i + 1))), some (.int (nI (i + 1)))]) ?_ (ih (i + 1) (by omega) (by omega))
                    refine congrArg (fun z => [some (Value.ref (ad 30 0)), some (Value.int g), some (Value.int a), some (Value.int b), some (Value.int z), some (Value.int (nI (i + 1)))]) ?_
                    rw [trF]
                    first | (rw [if_neg (fun z => h39 z.1.1)]; done) | (rw [if_neg (fun z => h54 z.1.2.1)]; done) | (rw [if_neg (fun z => z.1.2.2 h64)]; done) | (rw [if_neg (fun z => z.2.elim h74 (i_nlt.mpr h85))]; done) | (rw [if_pos ⟨⟨h39, h54, h64⟩, Or.inl h74⟩]; done) | (rw [if_pos ⟨⟨h39, h54, h64⟩, Or.inr (i_nle.mp h85)⟩]; done)
                  · refine v_aload_n dX10_traced_88 rfl ?_
                    refine v_iload dX10_traced_89 rfl ?_
                    refine v_cVi1 hB k_X10_214 (cM_chestOf hI (by omega)) (by decide) ⟨by decide, by decide⟩ rfl rfl (Nat.le_of_ble_eq_true rfl) dX10_traced_91 ?_
                    refine v_istore4 dX10_traced_94 (by decide) ?_
                    
                    refine v_iinc5 (v := 1) dX10_traced_96 (by decide) (by decide) ?_
                    rw [nI_1]
                    refine v_goto (tgt := 22) dX10_traced_99 (by decide) ?_
                    refine v_loc (l2 := [some (.ref (ad 30 0)), some (.int g), some (.int a), some (.int b), some (.int (trF ar g a b (i + 1))), some (.int (nI (i + 1)))]) ?_ (ih (i + 1) (by omega) (by omega))
                    refine congrArg (fun z => [some (Value.ref (ad 30 0)), some (Value.int g), some (Value.int a), some (Value.int b), some (Value.int z), some (Value.int (nI (i + 1)))]) ?_
                    rw [trF]
                    first | (rw [if_neg (fun z => h39 z.1.1)]; done) | (rw [if_neg (fun z => h54 z.1.2.1)]; done) | (rw [if_neg (fun z => z.1.2.2 h64)]; done) | (rw [if_neg (fun z => z.2.elim h74 (i_nlt.mpr h85))]; done) | (rw [if_pos ⟨⟨h39, h54, h64⟩, Or.inl h74⟩]; done) | (rw [if_pos ⟨⟨h39, h54, h64⟩, Or.inr (i_nle.mp h85)⟩]; done)
              · refine v_goto (tgt := 96) dX10_traced_67 (by decide) ?_
                
                refine v_iinc5 (v := 1) dX10_traced_96 (by decide) (by decide) ?_
                rw [nI_1]
                refine v_goto (tgt := 22) dX10_traced_99 (by decide) ?_
                refine v_loc (l2 := [some (.ref (ad 30 0)), some (.int g), some (.int a), some (.int b), some (.int (trF ar g a b (i + 1))), some (.int (nI (i + 1)))]) ?_ (ih (i + 1) (by omega) (by omega))
                refine congrArg (fun z => [some (Value.ref (ad 30 0)), some (Value.int g), some (Value.int a), some (Value.int b), some (Value.int z), some (Value.int (nI (i + 1)))]) ?_
                rw [trF]
                first | (rw [if_neg (fun z => h39 z.1.1)]; done) | (rw [if_neg (fun z => h54 z.1.2.1)]; done) | (rw [if_neg (fun z => z.1.2.2 h64)]; done) | (rw [if_neg (fun z => z.2.elim h74 (i_nlt.mpr h85))]; done) | (rw [if_pos ⟨⟨h39, h54, h64⟩, Or.inl h74⟩]; done) | (rw [if_pos ⟨⟨h39, h54, h64⟩, Or.inr (i_nle.mp h85)⟩]; done)
    refine v_bipush_v (v := -2) dX10_traced_15 (by decide) ?_
    refine v_istore4 dX10_traced_17 (by decide) ?_
    refine v_iconst_v (v := 0) dX10_traced_19 (by decide) ?_
    refine v_istore5 dX10_traced_20 (by decide) ?_
    exact loop (N 4 + 1) 0 (by omega) (by omega)
  · rw [bI_eq] at h10
    refine v_iconst_v (v := -1) dX10_traced_13 (by decide) ?_
    exact v_iret hB (by decide) (by decide) dX10_traced_14 ⟨congrArg (fun z => some (Value.int z)) (by unfold v_traced; rw [if_neg h10]), rfl, rfl⟩

theorem looB_t {ar : Nat → Nat → Int32} {f : Int32} {q : Nat} : looB ar f q = true ↔ ar 25 q = f ∧ ar 29 q = -2 := by unfold looB; exact decide_eq_true_iff
set_option maxHeartbeats 4000000 in
set_option maxRecDepth 100000 in
theorem cM_isLoose {l : Launch} {D : va_G} {cy : Nat → ClassId} {s0 : State} {ad : zA} {sc : Nat → Int32} {ar : Nat → Nat → Int32} {f : Int32} {n : Nat}  (hn : n < 120) : zM l D cy s0 yX10_isLoose cX10_isLoose 3 (some .boolean) 1 0 0 [.ref (ad 30 0), .int (nI n), .int f] ad (mW cy ad sc ar) (zPi (bI (looB ar f n = true)) ad (mW cy ad sc ar)) := by
  refine zM_of (own := RX10) rfl (by decide) (by simp [Value.category]) (Nat.le_of_ble_eq_true rfl) ?_
  intro X hB
  show V X RX10 cX10_isLoose 3 (some .boolean) 0 0 ad (mW cy ad sc ar) 0 [some (.ref (ad 30 0)), some (.int (nI n)), some (.int f)] []
  refine v_aload_n dX10_isLoose_0 rfl ?_
  refine mg66 dX10_isLoose_1 ?_
  refine v_iload_n dX10_isLoose_4 rfl ?_
  refine m_ldN 25 (L := 120) hB.cy ⟨rfl, rfl, rfl⟩ rfl (by omega) (by decide) dX10_isLoose_5 ?_
  refine v_iload_n dX10_isLoose_6 rfl ?_
  refine v_icmp_ne (tgt := 25) dX10_isLoose_7 (by decide) (fun h7 => ?_) (fun h7 => ?_)
  · refine v_iconst_v (v := 0) dX10_isLoose_25 (by decide) ?_
    exact v_zret hB (by decide) (by decide) dX10_isLoose_26 rfl ⟨congrArg (fun z => some (Value.int z)) ((bI_f (fun z => by obtain ⟨z1, z2⟩ := looB_t.mp z; first | exact h7 z1 | exact h18 z2)).symm), rfl, rfl⟩
  · refine v_aload_n dX10_isLoose_10 rfl ?_
    refine mg78 dX10_isLoose_11 ?_
    refine v_iload_n dX10_isLoose_14 rfl ?_
    refine m_ldN 29 (L := 120) hB.cy ⟨rfl, rfl, rfl⟩ rfl (by omega) (by decide) dX10_isLoose_15 ?_
    refine v_bipush_v (v := -2) dX10_isLoose_16 (by decide) ?_
    refine v_icmp_ne (tgt := 25) dX10_isLoose_18 (by decide) (fun h18 => ?_) (fun h18 => ?_)
    · refine v_iconst_v (v := 0) dX10_isLoose_25 (by decide) ?_
      exact v_zret hB (by decide) (by decide) dX10_isLoose_26 rfl ⟨congrArg (fun z => some (Value.int z)) ((bI_f (fun z => by obtain ⟨z1, z2⟩ := looB_t.mp z; first | exact h7 z1 | exact h18 z2)).symm), rfl, rfl⟩
    · refine v_iconst_v (v := 1) dX10_isLoose_21 (by decide) ?_
      refine v_goto (tgt := 26) dX10_isLoose_22 (by decide) ?_
      exact v_zret hB (by decide) (by decide) dX10_isLoose_26 rfl ⟨congrArg (fun z => some (Value.int z)) ((bI_t (looB_t.mpr ⟨h7, h18⟩)).symm), rfl, rfl⟩

set_option maxHeartbeats 4000000 in
set_option maxRecDepth 100000 in
theorem cM_about {l : Launch} {D : va_G} {cy : Nat → ClassId} {s0 : State} {ad : zA} {N : Nat → Nat} {sc : Nat → Int32} {ar : Nat → Nat → Int32} {f b : Int32}  (hI : MI N (upd sc 0 0) ar) : zM l D cy s0 yX10_about cX10_about 5 (some .int) 4 0 0 [.ref (ad 30 0), .int f, .int b] ad (mW cy ad sc ar) (zPi (v_about f b (upd sc 0 0) ar) ad (mW cy ad (upd sc 0 0) ar)) := by
  refine zM_of (own := RX10) rfl (by decide) (by simp [Value.category]) (Nat.le_of_ble_eq_true rfl) ?_
  intro X hB
  show V X RX10 cX10_about 5 (some .int) 0 0 ad (mW cy ad sc ar) 0 [some (.ref (ad 30 0)), some (.int f), some (.int b), none, none] []
  refine v_aload_n dX10_about_0 rfl ?_
  refine v_iconst_v (v := 0) dX10_about_1 (by decide) ?_
  refine mp1 dX10_about_2 ?_
  generalize upd sc 0 0 = sc at hI hB ⊢
  obtain ⟨⟨hN, b2, b3, b4, b5, b6, b7, b8, b9, b10⟩, hS, hQ, hBl, hCh, hZ⟩ := id hI
  refine v_aload_n dX10_about_5 rfl ?_
  refine v_iload_n dX10_about_6 rfl ?_
  refine v_cVi1 hB k_X10_143 cM_isFamily (by decide) ⟨by decide, by decide⟩ rfl rfl (Nat.le_of_ble_eq_true rfl) dX10_about_7 ?_
  refine v_if_ne (tgt := 15) dX10_about_10 (by decide) (fun h10 => ?_) (fun h10 => ?_)
  · rw [bI_ne] at h10
    obtain ⟨n, hn, rfl⟩ := i_ix (by rw [hN 2 (by decide) (by decide)] at h10; exact h10) (by omega)
    refine v_iconst_v (v := 0) dX10_about_15 (by decide) ?_
    refine v_istore_n3 dX10_about_16 (by decide) ?_
    refine v_iload_n dX10_about_17 rfl ?_
    rcases sw6 b with hsw | rfl | rfl | rfl | rfl | rfl | rfl
    · refine v_tableOut (tgt := 161) dX10_about_18 hsw (by decide) ?_
      refine v_iconst_v (v := -1) dX10_about_161 (by decide) ?_
      exact v_iret hB (by decide) (by decide) dX10_about_162 ⟨congrArg (fun z => some (Value.int z)) (by obtain ⟨e0, e1, e2, e3, e4, e5⟩ := swo6 hsw; unfold v_about; rw [if_pos h10, if_neg e0, if_neg e1, if_neg e2, if_neg e3, if_neg e4, if_neg e5]), rfl, rfl⟩
    · refine v_tableIn (tgt := 56) dX10_about_18 (by decide) (by decide) rfl (by decide) ?_
      refine v_aload_n dX10_about_56 rfl ?_
      refine mg22 dX10_about_57 ?_
      refine v_iload_n dX10_about_60 rfl ?_
      refine m_ldN 11 (L := 8) hB.cy ⟨rfl, rfl, rfl⟩ rfl (by omega) (by decide) dX10_about_61 ?_
      exact v_iret hB (by decide) (by decide) dX10_about_62 ⟨congrArg (fun z => some (Value.int z)) (by unfold v_about; rw [if_pos h10, cl_nI (by omega)]; rfl), rfl, rfl⟩
    · refine v_tableIn (tgt := 63) dX10_about_18 (by decide) (by decide) rfl (by decide) ?_
      refine v_aload_n dX10_about_63 rfl ?_
      refine mg26 dX10_about_64 ?_
      refine v_iload_n dX10_about_67 rfl ?_
      refine m_ldN 12 (L := 8) hB.cy ⟨rfl, rfl, rfl⟩ rfl (by omega) (by decide) dX10_about_68 ?_
      exact v_iret hB (by decide) (by decide) dX10_about_69 ⟨congrArg (fun z => some (Value.int z)) (by unfold v_about; rw [if_pos h10, cl_nI (by omega)]; rfl), rfl, rfl⟩
    · refine v_tableIn (tgt := 70) dX10_about_18 (by decide) (by decide) rfl (by decide) ?_
      refine v_aload_n dX10_about_70 rfl ?_
      refine mg29 dX10_about_71 ?_
      refine v_iload_n dX10_about_74 rfl ?_
      refine m_ldN 13 (L := 8) hB.cy ⟨rfl, rfl, rfl⟩ rfl (by omega) (by decide) dX10_about_75 ?_
      exact v_iret hB (by decide) (by decide) dX10_about_76 ⟨congrArg (fun z => some (Value.int z)) (by unfold v_about; rw [if_pos h10, cl_nI (by omega)]; rfl), rfl, rfl⟩
    · refine v_tableIn (tgt := 77) dX10_about_18 (by decide) (by decide) rfl (by decide) ?_
      refine v_aload_n dX10_about_77 rfl ?_
      refine mg32 dX10_about_78 ?_
      refine v_iload_n dX10_about_81 rfl ?_
      refine m_ldN 14 (L := 8) hB.cy ⟨rfl, rfl, rfl⟩ rfl (by omega) (by decide) dX10_about_82 ?_
      exact v_iret hB (by decide) (by decide) dX10_about_83 ⟨congrArg (fun z => some (Value.int z)) (by unfold v_about; rw [if_pos h10, cl_nI (by omega)]; rfl), rfl, rfl⟩
    · refine v_tableIn (tgt := 84) dX10_about_18 (by decide) (by decide) rfl (by decide) ?_
      have loop1 : ∀ (m : Nat) (i : Nat), N 5 < i + m → i ≤ N 5 → V X RX10 cX10_about 5 (some .int) 0 0 ad (mW cy ad sc ar) 87 [some (.ref (ad 30 0)), some (.int (nI n)), some (.int 4), some (.int (nI (ctN (looB ar (nI n)) i))), some (.int (nI i))] [] := by
        intro m
        induction m with
        | zero => intro i h1 h2; omega
        | succ m ih =>
          intro i h1 h2
          refine v_iload dX10_about_87 rfl ?_
          refine v_aload_n dX10_about_89 rfl ?_
          refine mg196 dX10_about_90 ?_
          refine v_icmp_ge (tgt := 120) dX10_about_93 (by decide) (fun h93 => ?_) (fun h93 => ?_)
          · rw [hN 5 (by decide) (by decide), nI_leI (by omega) (by omega)] at h93
            refine v_iload_n dX10_about_120 rfl ?_
            exact v_iret hB (by decide) (by decide) dX10_about_121 ⟨congrArg (fun z => some (Value.int z)) (by unfold v_about; rw [if_pos h10, hN 5 (by decide) (by decide), cl_nI (n := N 5) (by omega), show i = N 5 by omega]; rfl), rfl, rfl⟩
          · rw [hN 5 (by decide) (by decide), nI_leI (by omega) (by omega)] at h93
            refine v_iload_n dX10_about_96 rfl ?_
            refine v_aload_n dX10_about_97 rfl ?_
            refine v_iload dX10_about_98 rfl ?_
            refine v_iload_n dX10_about_100 rfl ?_
            refine v_cVi2 hB k_X10_205 (cM_isLoose (by omega)) (by decide) ⟨by decide, by decide⟩ rfl rfl (Nat.le_of_ble_eq_true rfl) dX10_about_101 ?_
            refine v_if_eq (tgt := 111) dX10_about_104 (by decide) (fun h104 => ?_) (fun h104 => ?_)
            · rw [bI_eq] at h104
              refine v_iconst_v (v := 0) dX10_about_111 (by decide) ?_
              refine v_iadd dX10_about_112 ?_
              have hct := ctN_le (looB ar (nI n)) i
              first | refine v_eq (show nI (ctN (looB ar (nI n)) i) + 1 = nI (ctN (looB ar (nI n)) (i + 1)) from by rw [ctN, if_pos h104]; exact nI_add _ 1) ?_ | refine v_eq (show nI (ctN (looB ar (nI n)) i) + 0 = nI (ctN (looB ar (nI n)) (i + 1)) from by rw [ctN, if_neg h104]; exact Int32.add_zero _) ?_
              refine v_istore_n3 dX10_about_113 (by decide) ?_
              refine v_iinc4 (v := 1) dX10_about_114 (by decide) (by decide) ?_
              rw [nI_1]
              refine v_goto (tgt := 87) dX10_about_117 (by decide) ?_
              exact ih (i + 1) (by omega) (by omega)
            · rw [bI_ne] at h104
              refine v_iconst_v (v := 1) dX10_about_107 (by decide) ?_
              refine v_goto (tgt := 112) dX10_about_108 (by decide) ?_
              refine v_iadd dX10_about_112 ?_
              have hct := ctN_le (looB ar (nI n)) i
              first | refine v_eq (show nI (ctN (looB ar (nI n)) i) + 1 = nI (ctN (looB ar (nI n)) (i + 1)) from by rw [ctN, if_pos h104]; exact nI_add _ 1) ?_ | refine v_eq (show nI (ctN (looB ar (nI n)) i) + 0 = nI (ctN (looB ar (nI n)) (i + 1)) from by rw [ctN, if_neg h104]; exact Int32.add_zero _) ?_
              refine v_istore_n3 dX10_about_113 (by decide) ?_
              refine v_iinc4 (v := 1) dX10_about_114 (by decide) (by decide) ?_
              rw [nI_1]
              refine v_goto (tgt := 87) dX10_about_117 (by decide) ?_
              exact ih (i + 1) (by omega) (by omega)
      refine v_iconst_v (v := 0) dX10_about_84 (by decide) ?_
      refine v_istore4 dX10_about_85 (by decide) ?_
      exact loop1 (N 5 + 1) 0 (by omega) (by omega)
    · refine v_tableIn (tgt := 122) dX10_about_18 (by decide) (by decide) rfl (by decide) ?_
      have loop2 : ∀ (m : Nat) (i : Nat), N 4 < i + m → i ≤ N 4 → V X RX10 cX10_about 5 (some .int) 0 0 ad (mW cy ad sc ar) 125 [some (.ref (ad 30 0)), some (.int (nI n)), some (.int 5), some (.int (nI (ctN (fun i => decide (ar 18 i = nI n)) i))), some (.int (nI i))] [] := by
        intro m
        induction m with
        | zero => intro i h1 h2; omega
        | succ m ih =>
          intro i h1 h2
          refine v_iload dX10_about_125 rfl ?_
          refine v_aload_n dX10_about_127 rfl ?_
          refine mg129 dX10_about_128 ?_
          refine v_icmp_ge (tgt := 159) dX10_about_131 (by decide) (fun h131 => ?_) (fun h131 => ?_)
          · rw [hN 4 (by decide) (by decide), nI_leI (by omega) (by omega)] at h131
            refine v_iload_n dX10_about_159 rfl ?_
            exact v_iret hB (by decide) (by decide) dX10_about_160 ⟨congrArg (fun z => some (Value.int z)) (by unfold v_about; rw [if_pos h10, hN 4 (by decide) (by decide), cl_nI (n := N 4) (by omega), show i = N 4 by omega]; rfl), rfl, rfl⟩
          · rw [hN 4 (by decide) (by decide), nI_leI (by omega) (by omega)] at h131
            refine v_iload_n dX10_about_134 rfl ?_
            refine v_aload_n dX10_about_135 rfl ?_
            refine mg45 dX10_about_136 ?_
            refine v_iload dX10_about_139 rfl ?_
            refine m_ldN 18 (L := 200) hB.cy ⟨rfl, rfl, rfl⟩ rfl (by omega) (by decide) dX10_about_141 ?_
            refine v_iload_n dX10_about_142 rfl ?_
            refine v_icmp_ne (tgt := 150) dX10_about_143 (by decide) (fun h143 => ?_) (fun h143 => ?_)
            · refine v_iconst_v (v := 0) dX10_about_150 (by decide) ?_
              refine v_iadd dX10_about_151 ?_
              have hct := ctN_le (fun i => decide (ar 18 i = nI n)) i
              first | refine v_eq (show nI (ctN (fun i => decide (ar 18 i = nI n)) i) + 1 = nI (ctN (fun i => decide (ar 18 i = nI n)) (i + 1)) from by rw [ctN, if_pos (decide_eq_true h143)]; exact nI_add _ 1) ?_ | refine v_eq (show nI (ctN (fun i => decide (ar 18 i = nI n)) i) + 0 = nI (ctN (fun i => decide (ar 18 i = nI n)) (i + 1)) from by rw [ctN, if_neg (fun z => h143 (of_decide_eq_true z))]; exact Int32.add_zero _) ?_
              refine v_istore_n3 dX10_about_152 (by decide) ?_
              refine v_iinc4 (v := 1) dX10_about_153 (by decide) (by decide) ?_
              rw [nI_1]
              refine v_goto (tgt := 125) dX10_about_156 (by decide) ?_
              exact ih (i + 1) (by omega) (by omega)
            · refine v_iconst_v (v := 1) dX10_about_146 (by decide) ?_
              refine v_goto (tgt := 151) dX10_about_147 (by decide) ?_
              refine v_iadd dX10_about_151 ?_
              have hct := ctN_le (fun i => decide (ar 18 i = nI n)) i
              first | refine v_eq (show nI (ctN (fun i => decide (ar 18 i = nI n)) i) + 1 = nI (ctN (fun i => decide (ar 18 i = nI n)) (i + 1)) from by rw [ctN, if_pos (decide_eq_true h143)]; exact nI_add _ 1) ?_ | refine v_eq (show nI (ctN (fun i => decide (ar 18 i = nI n)) i) + 0 = nI (ctN (fun i => decide (ar 18 i = nI n)) (i + 1)) from by rw [ctN, if_neg (fun z => h143 (of_decide_eq_true z))]; exact Int32.add_zero _) ?_
              refine v_istore_n3 dX10_about_152 (by decide) ?_
              refine v_iinc4 (v := 1) dX10_about_153 (by decide) (by decide) ?_
              rw [nI_1]
              refine v_goto (tgt := 125) dX10_about_156 (by decide) ?_
              exact ih (i + 1) (by omega) (by omega)
      refine v_iconst_v (v := 0) dX10_about_122 (by decide) ?_
      refine v_istore4 dX10_about_123 (by decide) ?_
      exact loop2 (N 4 + 1) 0 (by omega) (by omega)
  · rw [bI_eq] at h10
    refine v_iconst_v (v := -1) dX10_about_13 (by decide) ?_
    exact v_iret hB (by decide) (by decide) dX10_about_14 ⟨congrArg (fun z => some (Value.int z)) (by unfold v_about; rw [if_neg h10]), rfl, rfl⟩

set_option maxHeartbeats 4000000 in
set_option maxRecDepth 100000 in
theorem cM_quill {l : Launch} {D : va_G} {cy : Nat → ClassId} {s0 : State} {ad : zA} {N : Nat → Nat} {sc : Nat → Int32} {ar : Nat → Nat → Int32} {i b : Int32}  (hI : MI N (upd sc 0 0) ar) : zM l D cy s0 yX10_quill cX10_quill 5 (some .int) 4 0 0 [.ref (ad 30 0), .int i, .int b] ad (mW cy ad sc ar) (zPi (v_quill i b (upd sc 0 0) ar) ad (mW cy ad (upd sc 0 0) ar)) := by
  refine zM_of (own := RX10) rfl (by decide) (by simp [Value.category]) (Nat.le_of_ble_eq_true rfl) ?_
  intro X hB
  show V X RX10 cX10_quill 5 (some .int) 0 0 ad (mW cy ad sc ar) 0 [some (.ref (ad 30 0)), some (.int i), some (.int b), none, none] []
  refine v_aload_n dX10_quill_0 rfl ?_
  refine v_iconst_v (v := 0) dX10_quill_1 (by decide) ?_
  refine mp1 dX10_quill_2 ?_
  generalize upd sc 0 0 = sc at hI hB ⊢
  obtain ⟨⟨hN, b2, b3, b4, b5, b6, b7, b8, b9, b10⟩, hS, hQ, hBl, hCh, hZ⟩ := id hI
  refine v_iload_n dX10_quill_5 rfl ?_
  refine v_if_lt (tgt := 17) dX10_quill_6 (by decide) (fun h6 => ?_) (fun h6 => ?_)
  · refine v_iconst_v (v := -1) dX10_quill_17 (by decide) ?_
    exact v_iret hB (by decide) (by decide) dX10_quill_18 ⟨congrArg (fun z => some (Value.int z)) (by unfold v_quill; first | rw [if_neg (fun z => (i_nlt.mpr z.1) h6)] | rw [if_neg (fun z => h14 z.2)]), rfl, rfl⟩
  · refine v_iload_n dX10_quill_9 rfl ?_
    refine v_aload_n dX10_quill_10 rfl ?_
    refine mg196 dX10_quill_11 ?_
    refine v_icmp_lt (tgt := 19) dX10_quill_14 (by decide) (fun h14 => ?_) (fun h14 => ?_)
    · have hr : 0 ≤ i ∧ i < sc 5 := ⟨i_nlt.mp h6, h14⟩
      obtain ⟨n, hn, rfl⟩ := i_ix (by rw [hN 5 (by decide) (by decide)] at hr; exact hr) (by omega)
      obtain ⟨-, ⟨np, hp1, hp2, hp3, hp4⟩, -⟩ := hQ n hn
      refine v_iload_n dX10_quill_19 rfl ?_
      rcases sw6 b with hsw | rfl | rfl | rfl | rfl | rfl | rfl
      · refine v_tableOut (tgt := 138) dX10_quill_20 hsw (by decide) ?_
        refine v_iconst_v (v := -1) dX10_quill_138 (by decide) ?_
        exact v_iret hB (by decide) (by decide) dX10_quill_139 ⟨congrArg (fun z => some (Value.int z)) (by obtain ⟨e0, e1, e2, e3, e4, e5⟩ := swo6 hsw; unfold v_quill; rw [if_pos hr, if_neg e0, if_neg e1, if_neg e2, if_neg e3, if_neg e4, if_neg e5]), rfl, rfl⟩
      · refine v_tableIn (tgt := 60) dX10_quill_20 (by decide) (by decide) rfl (by decide) ?_
        refine v_aload_n dX10_quill_60 rfl ?_
        refine mg66 dX10_quill_61 ?_
        refine v_iload_n dX10_quill_64 rfl ?_
        refine m_ldN 25 (L := 120) hB.cy ⟨rfl, rfl, rfl⟩ rfl (by omega) (by decide) dX10_quill_65 ?_
        exact v_iret hB (by decide) (by decide) dX10_quill_66 ⟨congrArg (fun z => some (Value.int z)) (by unfold v_quill; rw [if_pos hr, cl_nI (by omega)]; rfl), rfl, rfl⟩
      · refine v_tableIn (tgt := 67) dX10_quill_20 (by decide) (by decide) rfl (by decide) ?_
        refine v_aload_n dX10_quill_67 rfl ?_
        refine mg69 dX10_quill_68 ?_
        refine v_iload_n dX10_quill_71 rfl ?_
        refine m_ldN 26 (L := 120) hB.cy ⟨rfl, rfl, rfl⟩ rfl (by omega) (by decide) dX10_quill_72 ?_
        exact v_iret hB (by decide) (by decide) dX10_quill_73 ⟨congrArg (fun z => some (Value.int z)) (by unfold v_quill; rw [if_pos hr, cl_nI (by omega)]; rfl), rfl, rfl⟩
      · refine v_tableIn (tgt := 74) dX10_quill_20 (by decide) (by decide) rfl (by decide) ?_
        refine v_aload_n dX10_quill_74 rfl ?_
        refine mg75 dX10_quill_75 ?_
        refine v_iload_n dX10_quill_78 rfl ?_
        refine m_ldN 28 (L := 120) hB.cy ⟨rfl, rfl, rfl⟩ rfl (by omega) (by decide) dX10_quill_79 ?_
        exact v_iret hB (by decide) (by decide) dX10_quill_80 ⟨congrArg (fun z => some (Value.int z)) (by unfold v_quill; rw [if_pos hr, cl_nI (by omega)]; rfl), rfl, rfl⟩
      · refine v_tableIn (tgt := 81) dX10_quill_20 (by decide) (by decide) rfl (by decide) ?_
        refine v_aload_n dX10_quill_81 rfl ?_
        refine mg72 dX10_quill_82 ?_
        refine v_iload_n dX10_quill_85 rfl ?_
        refine m_ldN 27 (L := 120) hB.cy ⟨rfl, rfl, rfl⟩ rfl (by omega) (by decide) dX10_quill_86 ?_
        exact v_iret hB (by decide) (by decide) dX10_quill_87 ⟨congrArg (fun z => some (Value.int z)) (by unfold v_quill; rw [if_pos hr, cl_nI (by omega)]; rfl), rfl, rfl⟩
      · refine v_tableIn (tgt := 88) dX10_quill_20 (by decide) (by decide) rfl (by decide) ?_
        refine v_aload_n dX10_quill_88 rfl ?_
        refine mg78 dX10_quill_89 ?_
        refine v_iload_n dX10_quill_92 rfl ?_
        refine m_ldN 29 (L := 120) hB.cy ⟨rfl, rfl, rfl⟩ rfl (by omega) (by decide) dX10_quill_93 ?_
        exact v_iret hB (by decide) (by decide) dX10_quill_94 ⟨congrArg (fun z => some (Value.int z)) (by unfold v_quill; rw [if_pos hr, cl_nI (by omega)]; rfl), rfl, rfl⟩
      · refine v_tableIn (tgt := 95) dX10_quill_20 (by decide) (by decide) rfl (by decide) ?_
        have loop : ∀ (m : Nat) (k : Nat), np < k + m → k ≤ np → V X RX10 cX10_quill 5 (some .int) 0 0 ad (mW cy ad sc ar) 100 [some (.ref (ad 30 0)), some (.int (nI n)), some (.int 5), some (.int (smI (fun k => ar 22 (cl (ar 30 (4 * n + k)))) k)), some (.int (nI k))] [] := by
          intro m
          induction m with
          | zero => intro k h1 h2; omega
          | succ m ih =>
            intro k h1 h2
            refine v_iload dX10_quill_100 rfl ?_
            refine v_aload_n dX10_quill_102 rfl ?_
            refine mg75 dX10_quill_103 ?_
            refine v_iload_n dX10_quill_106 rfl ?_
            refine m_ldN 28 (L := 120) hB.cy ⟨rfl, rfl, rfl⟩ rfl (by omega) (by decide) dX10_quill_107 ?_
            refine v_icmp_ge (tgt := 136) dX10_quill_108 (by decide) (fun h108 => ?_) (fun h108 => ?_)
            · rw [hp3, nI_leI (by omega) (by omega)] at h108
              refine v_iload_n dX10_quill_136 rfl ?_
              exact v_iret hB (by decide) (by decide) dX10_quill_137 ⟨congrArg (fun z => some (Value.int z)) (by unfold v_quill; rw [if_pos hr, cl_nI (by omega), hp3, cl_nI (n := np) (by omega), show k = np by omega]; rfl), rfl, rfl⟩
            · rw [hp3, nI_leI (by omega) (by omega)] at h108
              obtain ⟨sx, hs1, hs2⟩ := hp4 k (by omega)
              refine v_iload_n dX10_quill_111 rfl ?_
              refine v_aload_n dX10_quill_112 rfl ?_
              refine mg57 dX10_quill_113 ?_
              refine v_aload_n dX10_quill_116 rfl ?_
              refine mg81 dX10_quill_117 ?_
              refine v_iconst_v (v := 4) dX10_quill_120 (by decide) ?_
              refine v_iload_n dX10_quill_121 rfl ?_
              refine v_imul dX10_quill_122 ?_
              refine v_iload dX10_quill_123 rfl ?_
              refine v_iadd dX10_quill_125 ?_
              refine m_ldN 30 (L := 480) hB.cy ⟨rfl, rfl, rfl⟩ (show (4 : Int32) * nI n + nI k = nI (4 * n + k) from by rw [show (4 : Int32) = nI 4 by decide, pk_mul, nI_add]) (by omega) (by decide) dX10_quill_126 ?_
              refine m_ldN 22 (L := 200) hB.cy ⟨rfl, rfl, rfl⟩ hs2 (by omega) (by decide) dX10_quill_127 ?_
              refine v_iadd dX10_quill_128 ?_
              refine v_eq (show smI (fun k => ar 22 (cl (ar 30 (4 * n + k)))) k + ar 22 sx = smI (fun k => ar 22 (cl (ar 30 (4 * n + k)))) (k + 1) from by rw [smI, hs2, cl_nI (by omega)]) ?_
              refine v_istore_n3 dX10_quill_129 (by decide) ?_
              refine v_iinc4 (v := 1) dX10_quill_130 (by decide) (by decide) ?_
              rw [nI_1]
              refine v_goto (tgt := 100) dX10_quill_133 (by decide) ?_
              exact ih (k + 1) (by omega) (by omega)
        refine v_iconst_v (v := 0) dX10_quill_95 (by decide) ?_
        refine v_istore_n3 dX10_quill_96 (by decide) ?_
        refine v_iconst_v (v := 0) dX10_quill_97 (by decide) ?_
        refine v_istore4 dX10_quill_98 (by decide) ?_
        exact loop (np + 1) 0 (by omega) (by omega)
    · refine v_iconst_v (v := -1) dX10_quill_17 (by decide) ?_
      exact v_iret hB (by decide) (by decide) dX10_quill_18 ⟨congrArg (fun z => some (Value.int z)) (by unfold v_quill; first | rw [if_neg (fun z => (i_nlt.mpr z.1) h6)] | rw [if_neg (fun z => h14 z.2)]), rfl, rfl⟩

