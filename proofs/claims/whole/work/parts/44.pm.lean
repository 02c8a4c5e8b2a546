/-- the groups of quills by their first strip -/
def GI (Q : Nat → Bool) (K F : Nat) (g : Nat → Nat) (js : Nat → Int32) (tau : Nat → Nat → Int32) : Prop :=
  (js 2 = nI K ∧ K ≤ 12) ∧ (js 4 = nI F ∧ 1 ≤ F ∧ F ≤ 4) ∧ (∀ q, q < 2 ^ K → Q q = true → F ≤ cnB q K) ∧ (∀ f, f ≤ K → tau 9 f = nI (g f) ∧ g f ≤ 793) ∧
  ∀ f, f < K → g f ≤ g (f + 1) ∧ (∀ j, g f ≤ j → j < g (f + 1) → ∃ q, tau 8 j = nI q ∧ q < 2 ^ K ∧ Q q = true ∧ agr q (2 ^ f) (f + 1)) ∧ ∀ q, q < 2 ^ K → Q q = true → agr q (2 ^ f) (f + 1) → ∃ j, g f ≤ j ∧ j < g (f + 1) ∧ tau 8 j = nI q
def KN (Q : Nat → Bool) (K : Nat) (k : Nat → Int32) : Prop := ∀ s, s < 2 ^ K → k s = -1 ∨ k s = nI (mQ Q K s)
theorem agr_two {q f : Nat} (h : agr q (2 ^ f) (f + 1)) : q.testBit f = true ∧ ∀ i, i < f → q.testBit i = false := by
  refine ⟨by rw [h f (by omega), tb_two]; simp, fun i hi => by rw [h i (by omega), tb_two]; exact decide_eq_false (by omega)⟩
theorem two_agr {q f : Nat} (h : q.testBit f = true) (h2 : ∀ i, i < f → q.testBit i = false) : agr q (2 ^ f) (f + 1) := fun i hi => by
  rw [tb_two]
  by_cases e : f = i
  · subst e; rw [h]; simp
  · rw [decide_eq_false e]; exact h2 i (by omega)
theorem sub_low {q s f : Nat} (hq : q &&& s = q) (h2 : ∀ i, i < f → s.testBit i = false) : ∀ i, i < f → q.testBit i = false := fun i hi => by
  cases hb : q.testBit i with
  | false => rfl
  | true => have := sub_t.mp hq i hb; rw [h2 i hi] at this; cases this
theorem xor_low {q s f : Nat} (hq : q &&& s = q) (h1 : q.testBit f = true) (h2 : ∀ i, i < f → s.testBit i = false) : ∀ i, i < f + 1 → (s ^^^ q).testBit i = false := fun i hi => by
  rw [Nat.testBit_xor]
  by_cases e : i = f
  · subst e; rw [h1, sub_t.mp hq i h1]; rfl
  · rw [h2 i (by omega), sub_low hq h2 i (by omega)]; rfl
theorem mQ_lt {Q : Nat → Bool} {K s : Nat} (hK : K ≤ 12) (hs : s < 2 ^ K) : mQ Q K s < 4096 := by
  have h1 : mQ Q K s ≤ s := mkT_le Q _ _
  have h2 := p_2K hK
  omega
theorem bit_and {s f : Nat} : s &&& 2 ^ f = 0 ↔ s.testBit f = false := by
  constructor
  · intro h
    have e : (s &&& 2 ^ f).testBit f = false := by rw [h, Nat.zero_testBit]
    rw [Nat.testBit_and, tb_two] at e
    simpa using e
  · intro h
    apply Nat.eq_of_testBit_eq; intro i
    rw [Nat.testBit_and, tb_two, Nat.zero_testBit]
    by_cases e : f = i
    · subst e; rw [h]; rfl
    · rw [decide_eq_false e, Bool.and_false]
def mP (cy : Nat → ClassId) (ad : zA) (sc : Nat → Int32) (ar tau : Nat → Nat → Int32) (js mo : Nat → Int32) (cp cn al : Nat → Nat) (q3 pa : Nat → Nat → Int32) (pn : Nat → Nat) (Q : Nat → Bool) (K v : Nat) : Option Value → zA → zW → Prop := fun r ad2 w2 => r = some (.int (nI v)) ∧ ad2 = ad ∧ ∃ k, w2 = xW cy ad sc ar (upA tau 10 (k)) js mo cp cn al q3 pa pn ∧ KN Q K k
set_option maxHeartbeats 4000000 in
set_option maxRecDepth 100000 in
theorem pX5_mostByFirst {l : Launch} {D : va_G} {cy : Nat → ClassId} {s0 : State} {ad : zA} {sc : Nat → Int32} {ar tau : Nat → Nat → Int32} {js mo : Nat → Int32} {cp cn al : Nat → Nat} {q3 pa : Nat → Nat → Int32} {pn : Nat → Nat} {Q : Nat → Bool} {K F f s d : Nat} {g : Nat → Nat} {k : Nat → Int32} (hG : GI Q K F g js tau) (hf : f < K) (hs : s < 2 ^ K) (hs1 : s.testBit f = true) (hs2 : ∀ i, i < f → s.testBit i = false) (hk : KN Q K k) (ih : ∀ (s : Nat) (k : Nat → Int32), s < 2 ^ K → (∀ i, i < f + 1 → s.testBit i = false) → KN Q K k → zM l D cy s0 yX5_mostOf cX5_mostOf 3 (some .int) d 0 0 [.ref (ad 3 0), .int (nI (f + 1)), .int (nI s)] ad (xW cy ad sc ar (upA tau 10 (k)) js mo cp cn al q3 pa pn) (mP cy ad sc ar tau js mo cp cn al q3 pa pn Q K (mQ Q K s))) : zM l D cy s0 yX5_mostByFirst cX5_mostByFirst 7 (some .int) (d + 2) 0 0 [.ref (ad 3 0), .int (nI f), .int (nI s)] ad (xW cy ad sc ar (upA tau 10 (k)) js mo cp cn al q3 pa pn) (mP cy ad sc ar tau js mo cp cn al q3 pa pn Q K (mQ Q K s)) := by
  refine zM_of (own := RX5) rfl (by decide) (by simp [Value.category]) (Nat.le_of_ble_eq_true rfl) ?_
  intro X hB
  show V X RX5 cX5_mostByFirst 7 (some .int) 0 0 ad (xW cy ad sc ar (upA tau 10 (k)) js mo cp cn al q3 pa pn) 0 [some (.ref (ad 3 0)), some (.int (nI f)), some (.int (nI s)), none, none, none, none] []
  obtain ⟨⟨g2, hK⟩, ⟨g4, hF1, hF4⟩, hFq, hg9, hgg⟩ := id hG
  obtain ⟨hgl, hgs, hgc⟩ := hgg f hf
  have hgle := (hg9 (f + 1) (by omega)).2
  have hgle0 := (hg9 f (by omega)).2
  have h4096 := p_2K hK
  have hlt0 := xor_lt_of (two_sub hs1) (show (2 ^ f).testBit f = true by rw [tb_two]; simp)
  have hm1 := mQ_ge1 Q hK hs hs1 hs2
  have hcn12 : cnB s 12 = cnB s K := by
    have e := cn_ext hs (12 - K)
    rw [show K + (12 - K) = 12 by omega] at e; exact e
  have hcnle : cnB s 12 ≤ 12 := ctN_le _ _
  have hdv : cnB s 12 / F ≤ 12 := Nat.le_trans (Nat.div_le_self _ _) hcnle
  have hbd : mQ Q K s ≤ cnB s 12 / F := by
    rw [Nat.le_div_iff_mul_le (by omega), hcn12]
    exact mQ_bound Q hK hFq s s (Nat.le_refl _) hs
  have K90 : ∀ (v i : Nat) (k : Nat → Int32) (z : Option Value), v ≤ mQ Q K s → (cnB s 12 / F ≤ v ∨ ∀ j, g f ≤ j → j < g (f + 1) → ∀ q, q < 2 ^ K → tau 8 j = nI q → q &&& s = q → 1 + mQ Q K (s ^^^ q) ≤ v) → KN Q K k → V X RX5 cX5_mostByFirst 7 (some .int) 0 0 ad (xW cy ad sc ar (upA tau 10 (k)) js mo cp cn al q3 pa pn) 90 [some (.ref (ad 3 0)), some (.int (nI f)), some (.int (nI s)), some (.int (nI (cnB s 12 / F))), some (.int (nI (v))), some (.int (nI (i))), z] [] := by
    intro v i k z h4 h5 hk
    have hmv := mQ_lt (Q := Q) hK hs
    refine v_iload dX5_mostByFirst_90 rfl ?_
    refine v_iload_n dX5_mostByFirst_92 rfl ?_
    refine v_icmp_ge (tgt := 118) dX5_mostByFirst_93 (by decide) (fun h93 => ?_) (fun h93 => ?_)
    · rw [nI_leI (by omega) (by omega)] at h93
      have ev : v = mQ Q K s := by omega
      subst ev
      refine v_iload dX5_mostByFirst_118 rfl ?_
      exact v_iret hB (by decide) (by decide) dX5_mostByFirst_120 ⟨rfl, rfl, k, rfl, hk⟩
    · rw [nI_leI (by omega) (by omega)] at h93
      have h6 := h5.resolve_left h93
      refine v_iload dX5_mostByFirst_96 rfl ?_
      refine v_aload_n dX5_mostByFirst_98 rfl ?_
      refine v_iload_n dX5_mostByFirst_99 rfl ?_
      refine v_iconst_v (v := 1) dX5_mostByFirst_100 (by decide) ?_
      refine v_iadd dX5_mostByFirst_101 ?_
      refine v_eq (nI_add f 1) ?_
      refine v_iload_n dX5_mostByFirst_102 rfl ?_
      refine v_iconst_v (v := 1) dX5_mostByFirst_103 (by decide) ?_
      refine v_iload_n dX5_mostByFirst_104 rfl ?_
      refine v_ishl dX5_mostByFirst_105 ?_
      refine v_iconst_v (v := -1) dX5_mostByFirst_106 (by decide) ?_
      refine v_ixor dX5_mostByFirst_107 ?_
      refine v_iand dX5_mostByFirst_108 ?_
      refine v_eq (show nI s &&& ((1 : Int32) <<< (nI f &&& 31) ^^^ (-1)) = nI (s ^^^ 2 ^ f) by rw [shl_1 f (by omega)]; exact i_not (by omega) (two_sub hs1)) ?_
      refine v_cVg2 hB k_X5_38 (ih (s ^^^ 2 ^ f) k (by omega) (xor_low (two_sub hs1) (by rw [tb_two]; simp) hs2) hk) ⟨by omega, by omega⟩ ⟨by decide, by decide⟩ rfl rfl (Nat.le_of_ble_eq_true rfl) dX5_mostByFirst_109 ?_
      rintro rr ad2 w2 ⟨rfl, rfl, k2, rfl, hk2⟩
      show V X RX5 cX5_mostByFirst 7 (some .int) 0 0 ad2 _ 112 _ [_, _]
      refine v_max hB max_X5_56 max_s math_i max_c (by omega) ⟨by decide, by decide⟩ (Nat.le_of_ble_eq_true rfl) dX5_mostByFirst_112 ?_
      refine v_eq (max_I (a := v) (b := mQ Q K (s ^^^ 2 ^ f)) (by omega) (by omega)) ?_
      have ev : max v (mQ Q K (s ^^^ 2 ^ f)) = mQ Q K s := by
        refine Nat.le_antisymm (Nat.max_le.mpr ⟨h4, hm1⟩) (mQ_le Q hK hs hs1 hs2 (Nat.le_max_right _ _) (fun q p1 p2 p3 => ?_))
        have hql : q < 2 ^ K := Nat.lt_of_le_of_lt (by rw [← p1]; exact Nat.and_le_right) hs
        obtain ⟨j, j1, j2, j3⟩ := hgc q hql p3 (two_agr p2 (sub_low p1 hs2))
        have := h6 j j1 j2 q hql j3 p1
        omega
      rw [ev]
      refine v_goto (tgt := 120) dX5_mostByFirst_115 (by decide) ?_
      exact v_iret hB (by decide) (by decide) dX5_mostByFirst_120 ⟨rfl, rfl, k2, rfl, hk2⟩
  have loop : ∀ (m i v : Nat) (k : Nat → Int32) (z : Option Value), g (f + 1) < i + m → g f ≤ i → i ≤ g (f + 1) → v ≤ mQ Q K s → (∀ j, g f ≤ j → j < i → ∀ q, q < 2 ^ K → tau 8 j = nI q → q &&& s = q → 1 + mQ Q K (s ^^^ q) ≤ v) → KN Q K k → V X RX5 cX5_mostByFirst 7 (some .int) 0 0 ad (xW cy ad sc ar (upA tau 10 (k)) js mo cp cn al q3 pa pn) 25 [some (.ref (ad 3 0)), some (.int (nI f)), some (.int (nI s)), some (.int (nI (cnB s 12 / F))), some (.int (nI (v))), some (.int (nI (i))), z] [] := by
    intro m
    induction m with
    | zero => intro i v k z h1 h2 h3; omega
    | succ m ihm =>
      intro i v k z h1 h2 h3 h4 h5 hk
      refine v_iload dX5_mostByFirst_25 rfl ?_
      refine v_aload_n dX5_mostByFirst_27 rfl ?_
      refine xg_X5_18 dX5_mostByFirst_28 ?_
      refine v_iload_n dX5_mostByFirst_31 rfl ?_
      refine v_iconst_v (v := 1) dX5_mostByFirst_32 (by decide) ?_
      refine v_iadd dX5_mostByFirst_33 ?_
      refine x_ld 9 (L := 13) hB.cy (by decide) (by decide) rfl (nI_add f 1) (by omega) (by decide) dX5_mostByFirst_34 ?_
      refine v_icmp_ge (tgt := 90) dX5_mostByFirst_35 (by decide) (fun h35 => ?_) (fun h35 => ?_)
      · rw [show upA tau 10 k 9 (f + 1) = nI (g (f + 1)) from (hg9 (f + 1) (by omega)).1, nI_leI (by omega) (by omega)] at h35
        refine K90 v i k z h4 ?_ hk
        first
          | exact Or.inl (by assumption)
          | exact Or.inr (fun j p1 p2 => h5 j p1 (by omega))
      · rw [show upA tau 10 k 9 (f + 1) = nI (g (f + 1)) from (hg9 (f + 1) (by omega)).1, nI_leI (by omega) (by omega)] at h35
        obtain ⟨q, q1, q2, q3x, q4⟩ := hgs i h2 (by omega)
        obtain ⟨q5, q6⟩ := agr_two q4
        refine v_iload dX5_mostByFirst_38 rfl ?_
        refine v_iload_n dX5_mostByFirst_40 rfl ?_
        refine v_icmp_ge (tgt := 90) dX5_mostByFirst_41 (by decide) (fun h41 => ?_) (fun h41 => ?_)
        · rw [nI_leI (by omega) (by omega)] at h41
          refine K90 v i k z h4 ?_ hk
          first
            | exact Or.inl (by assumption)
            | exact Or.inr (fun j p1 p2 => h5 j p1 (by omega))
        · rw [nI_leI (by omega) (by omega)] at h41
          refine v_aload_n dX5_mostByFirst_44 rfl ?_
          refine xg_X5_15 dX5_mostByFirst_45 ?_
          refine v_iload dX5_mostByFirst_48 rfl ?_
          refine x_ld 8 (L := 793) hB.cy (by decide) (by decide) rfl rfl (by omega) (by decide) dX5_mostByFirst_50 ?_
          refine v_eq (show upA tau 10 k 8 i = nI q from q1) ?_
          refine v_istore6 dX5_mostByFirst_51 (by decide) ?_
          refine v_iload dX5_mostByFirst_53 rfl ?_
          refine v_iload_n dX5_mostByFirst_55 rfl ?_
          refine v_iand dX5_mostByFirst_56 ?_
          refine v_eq (fa_and q s) ?_
          refine v_iload dX5_mostByFirst_57 rfl ?_
          refine v_icmp_ne (tgt := 84) dX5_mostByFirst_59 (by decide) (fun h59 => ?_) (fun h59 => ?_)
          · have h59 : ¬ q &&& s = q := fun z => h59 (congrArg nI z)
            refine v_iinc5 (v := 1) dX5_mostByFirst_84 (by decide) (by decide) ?_
            refine v_goto (tgt := 25) dX5_mostByFirst_87 (by decide) ?_
            rw [nI_1 i]
            refine ihm (i + 1) v k _ (by omega) (by omega) (by omega) h4 (fun j p1 p2 q0 p3 p4 p5 => ?_) hk
            by_cases e : j = i
            · subst e
              have e2 : q0 = q := (nI_eq (by omega) (by omega)).mp (p4.symm.trans q1)
              subst e2; exact absurd p5 h59
            · exact h5 j p1 (by omega) q0 p3 p4 p5
            -- DONE
          · have h59 : q &&& s = q := (nI_eq (Nat.lt_of_le_of_lt Nat.and_le_left (by omega)) (by omega)).mp h59
            have hxl := xor_lt_of h59 q5
            have hmx := mQ_ge2 Q hK hs hs1 hs2 h59 q5 q3x
            have hmv := mQ_lt (Q := Q) hK hs
            refine v_iload dX5_mostByFirst_62 rfl ?_
            refine v_iconst_v (v := 1) dX5_mostByFirst_64 (by decide) ?_
            refine v_aload_n dX5_mostByFirst_65 rfl ?_
            refine v_iload_n dX5_mostByFirst_66 rfl ?_
            refine v_iconst_v (v := 1) dX5_mostByFirst_67 (by decide) ?_
            refine v_iadd dX5_mostByFirst_68 ?_
            refine v_eq (nI_add f 1) ?_
            refine v_iload_n dX5_mostByFirst_69 rfl ?_
            refine v_iload dX5_mostByFirst_70 rfl ?_
            refine v_iconst_v (v := -1) dX5_mostByFirst_72 (by decide) ?_
            refine v_ixor dX5_mostByFirst_73 ?_
            refine v_iand dX5_mostByFirst_74 ?_
            refine v_eq (i_not (by omega) h59) ?_
            refine v_cVg2 hB k_X5_38 (ih (s ^^^ q) k (by omega) (xor_low h59 q5 hs2) hk) ⟨by omega, by omega⟩ ⟨by decide, by decide⟩ rfl rfl (Nat.le_of_ble_eq_true rfl) dX5_mostByFirst_75 ?_
            rintro rr ad2 w2 ⟨rfl, rfl, k2, rfl, hk2⟩
            show V X RX5 cX5_mostByFirst 7 (some .int) 0 0 ad2 _ 78 _ [_, _, _]
            refine v_iadd dX5_mostByFirst_78 ?_
            refine v_eq (nI_add 1 (mQ Q K (s ^^^ q))) ?_
            refine v_max hB max_X5_56 max_s math_i max_c (by omega) ⟨by decide, by decide⟩ (Nat.le_of_ble_eq_true rfl) dX5_mostByFirst_79 ?_
            refine v_eq (max_I (a := v) (b := 1 + mQ Q K (s ^^^ q)) (by omega) (by omega)) ?_
            refine v_istore4 dX5_mostByFirst_82 (by decide) ?_
            refine v_iinc5 (v := 1) dX5_mostByFirst_84 (by decide) (by decide) ?_
            rw [nI_1 i]
            refine v_goto (tgt := 25) dX5_mostByFirst_87 (by decide) ?_
            refine ihm (i + 1) (max v (1 + mQ Q K (s ^^^ q))) k2 _ (by omega) (by omega) (by omega) (by omega) (fun j p1 p2 q0 p3 p4 p5 => ?_) hk2
            by_cases e : j = i
            · subst e
              have e2 : q0 = q := (nI_eq (by omega) (by omega)).mp (p4.symm.trans q1)
              subst e2; omega
            · have := h5 j p1 (by omega) q0 p3 p4 p5; omega
  refine v_iload_n dX5_mostByFirst_0 rfl ?_
  refine v_cSi1 hB k_X5_50 pJ6_bitCount ⟨by omega, by omega⟩ ⟨by decide, by decide⟩ (Nat.le_of_ble_eq_true rfl) dX5_mostByFirst_1 ?_
  refine v_eq (bc_n (by omega)) ?_
  refine v_aload_n dX5_mostByFirst_4 rfl ?_
  refine xg_X5_31 dX5_mostByFirst_5 ?_
  refine v_iconst_v (v := 1) dX5_mostByFirst_8 (by decide) ?_
  refine v_max hB max_X5_56 max_s math_i max_c (by omega) ⟨by decide, by decide⟩ (Nat.le_of_ble_eq_true rfl) dX5_mostByFirst_9 ?_
  refine v_eq (show (if js 4 < 1 then (1 : Int32) else js 4) = nI F by rw [g4]; exact if_neg (nI_nlt (b := 1) hF1 (by omega))) ?_
  refine v_idiv dX5_mostByFirst_12 (nI_ne0 (by omega) (by omega)) ?_
  refine v_eq (pk_div (by omega) (by omega) (by omega)) ?_
  refine v_istore_n3 dX5_mostByFirst_13 (by decide) ?_
  refine v_iconst_v (v := 0) dX5_mostByFirst_14 (by decide) ?_
  refine v_istore4 dX5_mostByFirst_15 (by decide) ?_
  refine v_aload_n dX5_mostByFirst_17 rfl ?_
  refine xg_X5_18 dX5_mostByFirst_18 ?_
  refine v_iload_n dX5_mostByFirst_21 rfl ?_
  refine x_ld 9 (L := 13) hB.cy (by decide) (by decide) rfl rfl (by omega) (by decide) dX5_mostByFirst_22 ?_
  refine v_eq (show upA tau 10 k 9 f = nI (g f) from (hg9 f (by omega)).1) ?_
  refine v_istore5 dX5_mostByFirst_23 (by decide) ?_
  exact loop (g (f + 1) + 1) (g f) 0 k none (by omega) (Nat.le_refl _) hgl (Nat.zero_le _) (fun j p1 p2 => by omega) hk

set_option maxHeartbeats 4000000 in
set_option maxRecDepth 100000 in
theorem pX5_mostOf {l : Launch} {D : va_G} {cy : Nat → ClassId} {s0 : State} {ad : zA} {sc : Nat → Int32} {ar tau : Nat → Nat → Int32} {js mo : Nat → Int32} {cp cn al : Nat → Nat} {q3 pa : Nat → Nat → Int32} {pn : Nat → Nat} {Q : Nat → Bool} {K F : Nat} {g : Nat → Nat} (hG : GI Q K F g js tau) : ∀ (r f s : Nat) (k : Nat → Int32), f + r = K → s < 2 ^ K → (∀ i, i < f → s.testBit i = false) → KN Q K k → zM l D cy s0 yX5_mostOf cX5_mostOf 3 (some .int) (3 * r + 2) 0 0 [.ref (ad 3 0), .int (nI f), .int (nI s)] ad (xW cy ad sc ar (upA tau 10 (k)) js mo cp cn al q3 pa pn) (mP cy ad sc ar tau js mo cp cn al q3 pa pn Q K (mQ Q K s)) := by
  intro r
  induction r with
  | zero =>
    intro f s k hfr hs hs2 hk
    refine zM_of (own := RX5) rfl (by decide) (by simp [Value.category]) (Nat.le_of_ble_eq_true rfl) ?_
    intro X hB
    show V X RX5 cX5_mostOf 3 (some .int) 0 0 ad (xW cy ad sc ar (upA tau 10 (k)) js mo cp cn al q3 pa pn) 0 [some (.ref (ad 3 0)), some (.int (nI f)), some (.int (nI s))] []
    obtain ⟨⟨g2, hK⟩, -⟩ := id hG
    have h4096 := p_2K hK
    have hmv := mQ_lt (Q := Q) hK hs
    refine v_iload_n dX5_mostOf_0 rfl ?_
    refine v_aload_n dX5_mostOf_1 rfl ?_
    refine xg_X5_24 dX5_mostOf_2 ?_
    refine v_icmp_ge (tgt := 19) dX5_mostOf_5 (by decide) (fun h5 => ?_) (fun h5 => ?_)
    · have e0 : s = 0 := by
        apply Nat.eq_of_testBit_eq; intro i
        rw [Nat.zero_testBit]
        by_cases z : i < f
        · exact hs2 i z
        · exact tb_hi hs (by omega)
      subst e0
      refine v_iconst_v (v := 0) dX5_mostOf_19 (by decide) ?_
      exact v_iret hB (by decide) (by decide) dX5_mostOf_20 ⟨by rw [mQ_0]; rfl, rfl, k, rfl, hk⟩
    · exact absurd (by rw [g2]; exact nI_le (show K ≤ f by omega) (by omega)) h5
  | succ r ihr =>
    intro f s k hfr hs hs2 hk
    refine zM_of (own := RX5) rfl (by decide) (by simp [Value.category]) (Nat.le_of_ble_eq_true rfl) ?_
    intro X hB
    show V X RX5 cX5_mostOf 3 (some .int) 0 0 ad (xW cy ad sc ar (upA tau 10 (k)) js mo cp cn al q3 pa pn) 0 [some (.ref (ad 3 0)), some (.int (nI f)), some (.int (nI s))] []
    obtain ⟨⟨g2, hK⟩, -⟩ := id hG
    have h4096 := p_2K hK
    have hmv := mQ_lt (Q := Q) hK hs
    refine v_iload_n dX5_mostOf_0 rfl ?_
    refine v_aload_n dX5_mostOf_1 rfl ?_
    refine xg_X5_24 dX5_mostOf_2 ?_
    refine v_icmp_ge (tgt := 19) dX5_mostOf_5 (by decide) (fun h5 => ?_) (fun h5 => ?_)
    · exact absurd h5 (by rw [g2]; exact nI_ge (by omega) (by omega))
    · refine v_iload_n dX5_mostOf_8 rfl ?_
      refine v_if_le (tgt := 19) dX5_mostOf_9 (by decide) (fun h9 => ?_) (fun h9 => ?_)
      · have e0 : s = 0 := (n_le0 (by omega)).mp h9
        subst e0
        refine v_iconst_v (v := 0) dX5_mostOf_19 (by decide) ?_
        exact v_iret hB (by decide) (by decide) dX5_mostOf_20 ⟨by rw [mQ_0]; rfl, rfl, k, rfl, hk⟩
      · refine v_iload_n dX5_mostOf_12 rfl ?_
        refine v_sipush_v (v := 4096) dX5_mostOf_13 (by decide) ?_
        refine v_icmp_lt (tgt := 21) dX5_mostOf_16 (by decide) (fun h16 => ?_) (fun h16 => ?_)
        · refine v_iload_n dX5_mostOf_21 rfl ?_
          refine v_iconst_v (v := 1) dX5_mostOf_22 (by decide) ?_
          refine v_iload_n dX5_mostOf_23 rfl ?_
          refine v_ishl dX5_mostOf_24 ?_
          refine v_eq (shl_1 f (by omega)) ?_
          refine v_iand dX5_mostOf_25 ?_
          refine v_eq (fa_and s (2 ^ f)) ?_
          refine v_if_ne (tgt := 38) dX5_mostOf_26 (by decide) (fun h26 => ?_) (fun h26 => ?_)
          · have h26 : s.testBit f = true := by
              cases hb : s.testBit f with
              | true => rfl
              | false => exact absurd (congrArg nI (bit_and.mpr hb)) h26
            refine v_aload_n dX5_mostOf_38 rfl ?_
            refine xg_X5_21 dX5_mostOf_39 ?_
            refine v_iload_n dX5_mostOf_42 rfl ?_
            refine x_ld 10 (L := 4096) hB.cy (by decide) (by decide) rfl rfl (by omega) (by decide) dX5_mostOf_43 ?_
            refine v_iconst_v (v := -1) dX5_mostOf_44 (by decide) ?_
            refine v_icmp_ne (tgt := 60) dX5_mostOf_45 (by decide) (fun h45 => ?_) (fun h45 => ?_)
            · have h45 : k s = nI (mQ Q K s) := (hk s hs).resolve_left h45
              refine v_aload_n dX5_mostOf_60 rfl ?_
              refine xg_X5_21 dX5_mostOf_61 ?_
              refine v_iload_n dX5_mostOf_64 rfl ?_
              refine x_ld 10 (L := 4096) hB.cy (by decide) (by decide) rfl rfl (by omega) (by decide) dX5_mostOf_65 ?_
              refine v_eq (show upA tau 10 k 10 s = nI (mQ Q K s) from h45) ?_
              exact v_iret hB (by decide) (by decide) dX5_mostOf_66 ⟨rfl, rfl, k, rfl, hk⟩
              -- DONE
            · refine v_aload_n dX5_mostOf_48 rfl ?_
              refine xg_X5_21 dX5_mostOf_49 ?_
              refine v_iload_n dX5_mostOf_52 rfl ?_
              refine v_aload_n dX5_mostOf_53 rfl ?_
              refine v_iload_n dX5_mostOf_54 rfl ?_
              refine v_iload_n dX5_mostOf_55 rfl ?_
              refine v_cVg2 hB k_X5_47 (pX5_mostByFirst (d := 3 * r + 2) (g := g) hG (by omega) hs h26 hs2 hk (fun s k q1 q2 q3 => ihr (f + 1) s k (by omega) q1 q2 q3)) ⟨by omega, by omega⟩ ⟨by decide, by decide⟩ rfl rfl (Nat.le_of_ble_eq_true rfl) dX5_mostOf_56 ?_
              rintro rr ad2 w2 ⟨rfl, rfl, k2, rfl, hk2⟩
              show V X RX5 cX5_mostOf 3 (some .int) 0 0 ad2 _ 59 _ [_, _, _]
              refine x_st 10 (L := 4096) hB.cy (by decide) (by decide) rfl rfl (by omega) (by decide) dX5_mostOf_59 ?_
              refine v_w (congrArg (fun z => xW cy ad2 sc ar z js mo cp cn al q3 pa pn) (put_up tau 10 s k2 (nI (mQ Q K s)))) ?_
              refine v_aload_n dX5_mostOf_60 rfl ?_
              refine xg_X5_21 dX5_mostOf_61 ?_
              refine v_iload_n dX5_mostOf_64 rfl ?_
              refine x_ld 10 (L := 4096) hB.cy (by decide) (by decide) rfl rfl (by omega) (by decide) dX5_mostOf_65 ?_
              refine v_eq (show upA tau 10 (upd k2 s (nI (mQ Q K s))) 10 s = nI (mQ Q K s) from pk_us) ?_
              refine v_iret hB (by decide) (by decide) dX5_mostOf_66 ⟨rfl, rfl, _, rfl, fun x hx => ?_⟩
              by_cases e : x = s
              · subst e; exact Or.inr pk_us
              · rw [pk_un e]; exact hk2 x hx
          · have h26 : s &&& 2 ^ f = 0 := (nI_eq (Nat.lt_of_le_of_lt Nat.and_le_left (by omega)) (by omega)).mp h26
            refine v_aload_n dX5_mostOf_29 rfl ?_
            refine v_iload_n dX5_mostOf_30 rfl ?_
            refine v_iconst_v (v := 1) dX5_mostOf_31 (by decide) ?_
            refine v_iadd dX5_mostOf_32 ?_
            refine v_eq (nI_add f 1) ?_
            refine v_iload_n dX5_mostOf_33 rfl ?_
            refine v_cVg2 hB k_X5_38 (ihr (f + 1) s k (by omega) hs (fun i hi => ?_) hk) ⟨by omega, by omega⟩ ⟨by decide, by decide⟩ rfl rfl (Nat.le_of_ble_eq_true rfl) dX5_mostOf_34 ?_
            · by_cases e : i = f
              · rw [e]; exact bit_and.mp h26
              · exact hs2 i (by omega)
            rintro rr ad2 w2 ⟨rfl, rfl, k2, rfl, hk2⟩
            show V X RX5 cX5_mostOf 3 (some .int) 0 0 ad2 _ 37 _ [_]
            exact v_iret hB (by decide) (by decide) dX5_mostOf_37 ⟨rfl, rfl, k2, rfl, hk2⟩
        · exact absurd (nI_lt (b := 4096) (by omega) (by decide)) h16
