/-- the search for the best quill: r parts are still to choose, from place fr on; L, t: lengths and tastes so far; pre: the places so far; b: the best so far -/
abbrev zBest : Type := Option (Nat × List Nat)
def btr (b : zBest) (t : Nat) (pre : List Nat) : zBest := match b with
  | none => some (t, pre)
  | some (u, p) => if u < t then some (t, pre) else some (u, p)
def chs (ln ts : Nat → Nat) (K T : Nat) : Nat → Nat → Nat → Nat → List Nat → zBest → zBest
  | 0, _, L, t, pre, b => if L = T then btr b t pre else b
  | r + 1, fr, L, t, pre, b => (List.range' fr (K - fr)).foldl (fun b i => if T < L + ln i then b else chs ln ts K T r (i + 1) (L + ln i) (t + ts i) (pre ++ [i]) b) b
def BR (mp : Nat → Nat) (n : Nat) (sc : Nat → Int32) (ar : Nat → Nat → Int32) (b : zBest) : Prop := match b with
  | none => sc 44 = 0
  | some (t, pl) => sc 44 = nI n ∧ sc 45 = nI t ∧ t ≤ 36 ∧ pl.length = n ∧ ∀ i, i < n → ar 42 i = nI (mp (pl.getD i 0))
/-- what the search reads: the places, lengths, tastes, SPAN and LAP -/
def CI (mp ln ts : Nat → Nat) (K n sp lp : Nat) (sc : Nat → Int32) (ar : Nat → Nat → Int32) : Prop :=
  (sc 43 = nI K ∧ K ≤ 30) ∧ (sc 9 = nI sp ∧ sp ≤ 99) ∧ (sc 10 = nI lp ∧ lp ≤ 9) ∧ (1 ≤ n ∧ n ≤ 4) ∧
  ∀ p, p < K → ar 40 p = nI (mp p) ∧ mp p < 200 ∧ ar 20 (mp p) = nI (ln p) ∧ ar 22 (mp p) = nI (ts p) ∧ (1 ≤ ln p ∧ ln p ≤ 60) ∧ ts p ≤ 9
def CR (k : Nat) (sc sc' : Nat → Int32) (ar ar' : Nat → Nat → Int32) : Prop := (∀ j, j ≠ 44 → j ≠ 45 → sc' j = sc j) ∧ (∀ j, j ≠ 41 → j ≠ 42 → ar' j = ar j) ∧ ∀ i, i < k → ar' 41 i = ar 41 i
theorem CR.refl (k : Nat) (sc : Nat → Int32) (ar : Nat → Nat → Int32) : CR k sc sc ar ar := ⟨fun _ _ _ => rfl, fun _ _ _ => rfl, fun _ _ => rfl⟩
theorem CR.trans {k : Nat} {s1 s2 s3 : Nat → Int32} {a1 a2 a3 : Nat → Nat → Int32} (h : CR k s1 s2 a1 a2) (h2 : CR k s2 s3 a2 a3) : CR k s1 s3 a1 a3 :=
  ⟨fun j p q => (h2.1 j p q).trans (h.1 j p q), fun j p q => (h2.2.1 j p q).trans (h.2.1 j p q), fun i p => (h2.2.2 i p).trans (h.2.2 i p)⟩
theorem CR.less {k k' : Nat} {s1 s2 : Nat → Int32} {a1 a2 : Nat → Nat → Int32} (h : CR k s1 s2 a1 a2) (hk : k' ≤ k) : CR k' s1 s2 a1 a2 := ⟨h.1, h.2.1, fun i p => h.2.2 i (by omega)⟩
theorem CI.keep {mp ln ts : Nat → Nat} {K n sp lp k : Nat} {sc sc' : Nat → Int32} {ar ar' : Nat → Nat → Int32} (h : CI mp ln ts K n sp lp sc ar) (h2 : CR k sc sc' ar ar') : CI mp ln ts K n sp lp sc' ar' := by
  obtain ⟨h1, h3, h4, h5, h6⟩ := h
  refine ⟨⟨by rw [h2.1 43 (by decide) (by decide)]; exact h1.1, h1.2⟩, ⟨by rw [h2.1 9 (by decide) (by decide)]; exact h3.1, h3.2⟩, ⟨by rw [h2.1 10 (by decide) (by decide)]; exact h4.1, h4.2⟩, h5, fun p hp => ?_⟩
  rw [h2.2.1 40 (by decide) (by decide), h2.2.1 20 (by decide) (by decide), h2.2.1 22 (by decide) (by decide)]
  exact h6 p hp
theorem n_sub_eq {a b c : Nat} (ha : a < 2 ^ 30) (hb : b < 2 ^ 30) (hc : c < 2 ^ 30) : nI a - nI b = nI c ↔ a = b + c := by
  rw [← Int32.toInt_inj, pk_sub_toInt ha hb, nI_toInt (by omega)]; omega
def cP (cy : Nat → ClassId) (ad : zA) (mp : Nat → Nat) (n k : Nat) (sc : Nat → Int32) (ar : Nat → Nat → Int32) (b : zBest) : Option Value → zA → zW → Prop := fun r ad2 w2 => r = none ∧ ad2 = ad ∧ ∃ sc' ar', w2 = mW cy ad sc' ar' ∧ CR k sc sc' ar ar' ∧ BR mp n sc' ar' b
theorem upd_n {f : Nat → Int32} {i j : Nat} {x : Int32} (h : j ≠ i) : upd f i x j = f j := by unfold upd; rw [if_neg h]
theorem getD_app {pre : List Nat} {i k : Nat} (x : Nat) (h : pre.length = k) (hi : i < k) : (pre ++ [x]).getD i 0 = pre.getD i 0 := by
  rw [List.getD_eq_getElem?_getD, List.getD_eq_getElem?_getD, List.getElem?_append_left (by omega)]
theorem getD_end {pre : List Nat} {k : Nat} (x : Nat) (h : pre.length = k) : (pre ++ [x]).getD k 0 = x := by
  subst h; rw [List.getD_eq_getElem?_getD, List.getElem?_append_right (Nat.le_refl _), Nat.sub_self]; rfl
set_option maxHeartbeats 4000000 in
set_option maxRecDepth 100000 in
theorem cM_choose {l : Launch} {D : va_G} {cy : Nat → ClassId} {s0 : State} {ad : zA} {mp ln ts : Nat → Nat} {K n sp lp : Nat} : ∀ (r k fr L t : Nat) (pre : List Nat) (b : zBest) (sc : Nat → Int32) (ar : Nat → Nat → Int32), n = k + r → L ≤ 60 * k → t ≤ 9 * k → pre.length = k → CI mp ln ts K n sp lp sc ar → (∀ i, i < k → ar 41 i = nI (mp (pre.getD i 0))) → BR mp n sc ar b → fr ≤ 31 →
    zM l D cy s0 yX10_choose cX10_choose 7 none (r + 1) 0 0 [.ref (ad 30 0), .int (nI n), .int (nI k), .int (nI fr), .int (nI L), .int (nI t)] ad (mW cy ad sc ar) (cP cy ad mp n k sc ar (chs ln ts K (sp + lp * (n - 1)) r fr L t pre b)) := by
  intro r
  induction r with
  | zero =>
    intro k fr L t pre b sc ar hk hL ht hpl hCI hch hb hfr
    refine zM_of (own := RX10) rfl (by decide) (by simp [Value.category]) (Nat.le_of_ble_eq_true rfl) ?_
    intro X hB
    show V X RX10 cX10_choose 7 none 0 0 ad (mW cy ad sc ar) 0 [some (.ref (ad 30 0)), some (.int (nI n)), some (.int (nI k)), some (.int (nI fr)), some (.int (nI L)), some (.int (nI t)), none] []
    obtain ⟨c43, c9, c10, cn, cp⟩ := id hCI
    have hlp : lp * (n - 1) ≤ 27 := Nat.le_trans (Nat.mul_le_mul c10.2 (show n - 1 ≤ 3 by omega)) (by decide)
    have hkn : k = n := by omega
    subst hkn
    refine v_iload_n dX10_choose_0 rfl ?_
    refine v_iload_n dX10_choose_1 rfl ?_
    refine v_icmp_ne (tgt := 81) dX10_choose_2 (by decide) (fun h2 => ?_) (fun h2 => ?_)
    · exact absurd rfl h2
    · refine v_iload dX10_choose_5 rfl ?_
      refine v_aload_n dX10_choose_7 rfl ?_
      refine mg19 dX10_choose_8 ?_
      refine v_iload_n dX10_choose_11 rfl ?_
      refine v_iconst_v (v := 1) dX10_choose_12 (by decide) ?_
      refine v_isub dX10_choose_13 ?_
      refine v_imul dX10_choose_14 ?_
      refine v_eq (show sc 10 * (nI k - 1) = nI (lp * (k - 1)) from by rw [c10.1, show (1 : Int32) = nI 1 by decide, pk_sub (by omega), pk_mul]) ?_
      refine v_isub dX10_choose_15 ?_
      refine v_aload_n dX10_choose_16 rfl ?_
      refine mg16 dX10_choose_17 ?_
      refine v_icmp_ne (tgt := 39) dX10_choose_20 (by decide) (fun h20 => ?_) (fun h20 => ?_)
      · have h20 : ¬ L = sp + lp * (k - 1) := fun z => h20 (by rw [c9.1]; exact (n_sub_eq (by omega) (by omega) (by omega)).mpr (by omega))
        refine v_vret hB (by decide) (by decide) dX10_choose_39 ⟨rfl, rfl, sc, ar, rfl, CR.refl _ _ _, ?_⟩
        first | (rw [chs, if_neg h20]; exact hb) | (rw [chs, if_pos h20, show btr (some (u, pl)) t pre = some (u, pl) from if_neg h36]; exact hb)
      · have h20 : L = sp + lp * (k - 1) := by
          rw [c9.1] at h20
          have z := (n_sub_eq (by omega) (by omega) (by omega)).mp h20
          omega
        refine v_aload_n dX10_choose_23 rfl ?_
        refine mg173 dX10_choose_24 ?_
        refine v_if_le (tgt := 40) dX10_choose_27 (by decide) (fun h27 => ?_) (fun h27 => ?_)
        · have hres : chs ln ts K (sp + lp * (k - 1)) 0 fr L t pre b = some (t, pre) := by
            rw [chs, if_pos h20]
            cases b with
            | none => rfl
            | some q => obtain ⟨u, pl⟩ := q; rw [hb.1] at h27; exact absurd h27 (nI_nle (by omega) (by omega))
          refine v_aload_n dX10_choose_40 rfl ?_
          refine v_iload_n dX10_choose_41 rfl ?_
          refine mp173 dX10_choose_42 ?_
          refine v_aload_n dX10_choose_45 rfl ?_
          refine v_iload dX10_choose_46 rfl ?_
          refine mp180 dX10_choose_48 ?_
          have loopc : ∀ (m i : Nat) (A : Nat → Nat → Int32), k < i + m → i ≤ k → (∀ j, j ≠ 42 → A j = ar j) → (∀ j, j < i → A 42 j = nI (mp (pre.getD j 0))) → V X RX10 cX10_choose 7 none 0 0 ad (mW cy ad (upd (upd sc 44 (nI k)) 45 (nI t)) A) 54 [some (.ref (ad 30 0)), some (.int (nI k)), some (.int (nI k)), some (.int (nI fr)), some (.int (nI L)), some (.int (nI t)), some (.int (nI i))] [] := by
            intro m
            induction m with
            | zero => intro i A h1 h2; omega
            | succ m ih =>
              intro i A h1 h2 hA h42
              refine v_iload dX10_choose_54 rfl ?_
              refine v_iload_n dX10_choose_56 rfl ?_
              refine v_icmp_ge (tgt := 80) dX10_choose_57 (by decide) (fun h57 => ?_) (fun h57 => ?_)
              · rw [nI_leI (by omega) (by omega)] at h57
                refine v_vret hB (by decide) (by decide) dX10_choose_80 ⟨rfl, rfl, _, A, rfl, ⟨fun j q1 q2 => by rw [upd_n q2, upd_n q1], fun j q1 q2 => hA j q2, fun j hj => by rw [hA 41 (by decide)]⟩, ?_⟩
                rw [hres]
                exact ⟨rfl, rfl, by omega, hpl, fun j hj => h42 j (by omega)⟩
              · rw [nI_leI (by omega) (by omega)] at h57
                refine v_aload_n dX10_choose_60 rfl ?_
                refine mg117 dX10_choose_61 ?_
                refine v_iload dX10_choose_64 rfl ?_
                refine v_aload_n dX10_choose_66 rfl ?_
                refine mg114 dX10_choose_67 ?_
                refine v_iload dX10_choose_70 rfl ?_
                refine m_ldN 41 (L := 4) hB.cy ⟨rfl, rfl, rfl⟩ rfl (by omega) (by decide) dX10_choose_72 ?_
                refine v_eq (show A 41 i = nI (mp (pre.getD i 0)) by rw [hA 41 (by decide)]; exact hch i (by omega)) ?_
                refine m_stN 42 (L := 4) hB.cy ⟨rfl, rfl, rfl⟩ rfl (by omega) (by decide) dX10_choose_73 ?_
                refine v_iinc6 (v := 1) dX10_choose_74 (by decide) (by decide) ?_
                rw [nI_1]
                refine v_goto (tgt := 54) dX10_choose_77 (by decide) ?_
                refine ih (i + 1) _ (by omega) (by omega) (fun j hj => by rw [putA_n _ _ _ hj]; exact hA j hj) (fun j hj => ?_)
                by_cases e : j = i
                · subst e; rw [putA_s]
                · rw [putA_m _ _ _ e]; exact h42 j (by omega)
          refine v_iconst_v (v := 0) dX10_choose_51 (by decide) ?_
          refine v_istore6 dX10_choose_52 (by decide) ?_
          exact loopc (k + 1) 0 ar (by omega) (by omega) (fun j _ => rfl) (fun j hj => absurd hj (Nat.not_lt_zero _))
        · obtain ⟨u, pl, rfl⟩ : ∃ u pl, b = some (u, pl) := by
            cases b with
            | none => exact absurd (show sc 44 ≤ 0 by rw [show sc 44 = 0 from hb]; decide) h27
            | some q => exact ⟨q.1, q.2, rfl⟩
          refine v_iload dX10_choose_30 rfl ?_
          refine v_aload_n dX10_choose_32 rfl ?_
          refine mg180 dX10_choose_33 ?_
          refine v_icmp_gt (tgt := 40) dX10_choose_36 (by decide) (fun h36 => ?_) (fun h36 => ?_)
          · have h36 : u < t := by rw [hb.2.1] at h36; exact (n_ltI (by have := hb.2.2.1; omega) (by omega)).mp h36
            have hres : chs ln ts K (sp + lp * (k - 1)) 0 fr L t pre (some (u, pl)) = some (t, pre) := by rw [chs, if_pos h20]; exact if_pos h36
            refine v_aload_n dX10_choose_40 rfl ?_
            refine v_iload_n dX10_choose_41 rfl ?_
            refine mp173 dX10_choose_42 ?_
            refine v_aload_n dX10_choose_45 rfl ?_
            refine v_iload dX10_choose_46 rfl ?_
            refine mp180 dX10_choose_48 ?_
            have loopc : ∀ (m i : Nat) (A : Nat → Nat → Int32), k < i + m → i ≤ k → (∀ j, j ≠ 42 → A j = ar j) → (∀ j, j < i → A 42 j = nI (mp (pre.getD j 0))) → V X RX10 cX10_choose 7 none 0 0 ad (mW cy ad (upd (upd sc 44 (nI k)) 45 (nI t)) A) 54 [some (.ref (ad 30 0)), some (.int (nI k)), some (.int (nI k)), some (.int (nI fr)), some (.int (nI L)), some (.int (nI t)), some (.int (nI i))] [] := by
              intro m
              induction m with
              | zero => intro i A h1 h2; omega
              | succ m ih =>
                intro i A h1 h2 hA h42
                refine v_iload dX10_choose_54 rfl ?_
                refine v_iload_n dX10_choose_56 rfl ?_
                refine v_icmp_ge (tgt := 80) dX10_choose_57 (by decide) (fun h57 => ?_) (fun h57 => ?_)
                · rw [nI_leI (by omega) (by omega)] at h57
                  refine v_vret hB (by decide) (by decide) dX10_choose_80 ⟨rfl, rfl, _, A, rfl, ⟨fun j q1 q2 => by rw [upd_n q2, upd_n q1], fun j q1 q2 => hA j q2, fun j hj => by rw [hA 41 (by decide)]⟩, ?_⟩
                  rw [hres]
                  exact ⟨rfl, rfl, by omega, hpl, fun j hj => h42 j (by omega)⟩
                · rw [nI_leI (by omega) (by omega)] at h57
                  refine v_aload_n dX10_choose_60 rfl ?_
                  refine mg117 dX10_choose_61 ?_
                  refine v_iload dX10_choose_64 rfl ?_
                  refine v_aload_n dX10_choose_66 rfl ?_
                  refine mg114 dX10_choose_67 ?_
                  refine v_iload dX10_choose_70 rfl ?_
                  refine m_ldN 41 (L := 4) hB.cy ⟨rfl, rfl, rfl⟩ rfl (by omega) (by decide) dX10_choose_72 ?_
                  refine v_eq (show A 41 i = nI (mp (pre.getD i 0)) by rw [hA 41 (by decide)]; exact hch i (by omega)) ?_
                  refine m_stN 42 (L := 4) hB.cy ⟨rfl, rfl, rfl⟩ rfl (by omega) (by decide) dX10_choose_73 ?_
                  refine v_iinc6 (v := 1) dX10_choose_74 (by decide) (by decide) ?_
                  rw [nI_1]
                  refine v_goto (tgt := 54) dX10_choose_77 (by decide) ?_
                  refine ih (i + 1) _ (by omega) (by omega) (fun j hj => by rw [putA_n _ _ _ hj]; exact hA j hj) (fun j hj => ?_)
                  by_cases e : j = i
                  · subst e; rw [putA_s]
                  · rw [putA_m _ _ _ e]; exact h42 j (by omega)
            refine v_iconst_v (v := 0) dX10_choose_51 (by decide) ?_
            refine v_istore6 dX10_choose_52 (by decide) ?_
            exact loopc (k + 1) 0 ar (by omega) (by omega) (fun j _ => rfl) (fun j hj => absurd hj (Nat.not_lt_zero _))
          · have h36 : ¬ u < t := fun z => h36 (by rw [hb.2.1]; exact (n_ltI (by have := hb.2.2.1; omega) (by omega)).mpr z)
            refine v_vret hB (by decide) (by decide) dX10_choose_39 ⟨rfl, rfl, sc, ar, rfl, CR.refl _ _ _, ?_⟩
            first | (rw [chs, if_neg h20]; exact hb) | (rw [chs, if_pos h20, show btr (some (u, pl)) t pre = some (u, pl) from if_neg h36]; exact hb)
  | succ r ihr =>
    intro k fr L t pre b sc ar hk hL ht hpl hCI hch hb hfr
    refine zM_of (own := RX10) rfl (by decide) (by simp [Value.category]) (Nat.le_of_ble_eq_true rfl) ?_
    intro X hB
    show V X RX10 cX10_choose 7 none 0 0 ad (mW cy ad sc ar) 0 [some (.ref (ad 30 0)), some (.int (nI n)), some (.int (nI k)), some (.int (nI fr)), some (.int (nI L)), some (.int (nI t)), none] []
    obtain ⟨c43, c9, c10, cn, cp⟩ := id hCI
    have hlp : lp * (n - 1) ≤ 27 := Nat.le_trans (Nat.mul_le_mul c10.2 (show n - 1 ≤ 3 by omega)) (by decide)
    generalize hBe : chs ln ts K (sp + lp * (n - 1)) (r + 1) fr L t pre b = B at hB
    rw [chs] at hBe
    have loopm : ∀ (m i : Nat) (b : zBest) (sc2 : Nat → Int32) (ar2 : Nat → Nat → Int32), 31 < i + m → i ≤ 31 → CR k sc sc2 ar ar2 → BR mp n sc2 ar2 b → (List.range' i (K - i)).foldl (fun b i => if sp + lp * (n - 1) < L + ln i then b else chs ln ts K (sp + lp * (n - 1)) r (i + 1) (L + ln i) (t + ts i) (pre ++ [i]) b) b = B → V X RX10 cX10_choose 7 none 0 0 ad (mW cy ad sc2 ar2) 84 [some (.ref (ad 30 0)), some (.int (nI n)), some (.int (nI k)), some (.int (nI fr)), some (.int (nI L)), some (.int (nI t)), some (.int (nI i))] [] := by
      intro m
      induction m with
      | zero =>
        intro i b sc2 ar2 h1 h2 hCR hb hB2
        exact absurd h1 (by omega)
      | succ m ih =>
        intro i b sc2 ar2 h1 h2 hCR hb hB2
        have hCI2 := hCI.keep hCR
        obtain ⟨c43, c9, c10, cn, cp⟩ := id hCI2
        refine v_iload dX10_choose_84 rfl ?_
        refine v_aload_n dX10_choose_86 rfl ?_
        refine mg170 dX10_choose_87 ?_
        refine v_icmp_ge (tgt := 188) dX10_choose_90 (by decide) (fun h90 => ?_) (fun h90 => ?_)
        · rw [c43.1, nI_leI (by omega) (by omega)] at h90
          exact v_vret hB (by decide) (by decide) dX10_choose_188 ⟨rfl, rfl, sc2, ar2, rfl, hCR, by rw [show K - i = 0 by omega] at hB2; rw [← hB2]; exact hb⟩
        · rw [c43.1, nI_leI (by omega) (by omega)] at h90
          obtain ⟨p1, p2, p3, p4, p5, p6⟩ := cp i (by omega)
          rw [show K - i = (K - (i + 1)) + 1 by omega, List.range'_succ, List.foldl_cons] at hB2
          refine v_iload dX10_choose_93 rfl ?_
          refine v_aload_n dX10_choose_95 rfl ?_
          refine mg51 dX10_choose_96 ?_
          refine v_aload_n dX10_choose_99 rfl ?_
          refine mg111 dX10_choose_100 ?_
          refine v_iload dX10_choose_103 rfl ?_
          refine m_ldN 40 (L := 30) hB.cy ⟨rfl, rfl, rfl⟩ rfl (by omega) (by decide) dX10_choose_105 ?_
          refine m_ldN 20 (L := 200) hB.cy ⟨rfl, rfl, rfl⟩ p1 (by omega) (by decide) dX10_choose_106 ?_
          refine v_iadd dX10_choose_107 ?_
          refine v_eq (show nI L + ar2 20 (mp i) = nI (L + ln i) by rw [p3, nI_add]) ?_
          refine v_aload_n dX10_choose_108 rfl ?_
          refine mg16 dX10_choose_109 ?_
          refine v_aload_n dX10_choose_112 rfl ?_
          refine mg19 dX10_choose_113 ?_
          refine v_iload_n dX10_choose_116 rfl ?_
          refine v_iconst_v (v := 1) dX10_choose_117 (by decide) ?_
          refine v_isub dX10_choose_118 ?_
          refine v_imul dX10_choose_119 ?_
          refine v_eq (show sc2 10 * (nI n - 1) = nI (lp * (n - 1)) from by rw [c10.1, show (1 : Int32) = nI 1 by decide, pk_sub (by omega), pk_mul]) ?_
          refine v_iadd dX10_choose_120 ?_
          refine v_eq (show sc2 9 + nI (lp * (n - 1)) = nI (sp + lp * (n - 1)) by rw [c9.1, nI_add]) ?_
          refine v_icmp_le (tgt := 127) dX10_choose_121 (by decide) (fun h121 => ?_) (fun h121 => ?_)
          · have h121 : ¬ sp + lp * (n - 1) < L + ln i := by
              have z := (nI_leI (by omega) (by omega)).mp h121
              omega
            refine v_aload_n dX10_choose_127 rfl ?_
            refine mg114 dX10_choose_128 ?_
            refine v_iload_n dX10_choose_131 rfl ?_
            refine v_aload_n dX10_choose_132 rfl ?_
            refine mg111 dX10_choose_133 ?_
            refine v_iload dX10_choose_136 rfl ?_
            refine m_ldN 40 (L := 30) hB.cy ⟨rfl, rfl, rfl⟩ rfl (by omega) (by decide) dX10_choose_138 ?_
            refine v_eq p1 ?_
            refine m_stN 41 (L := 4) hB.cy ⟨rfl, rfl, rfl⟩ rfl (by omega) (by decide) dX10_choose_139 ?_
            refine v_aload_n dX10_choose_140 rfl ?_
            refine v_iload_n dX10_choose_141 rfl ?_
            refine v_iload_n dX10_choose_142 rfl ?_
            refine v_iconst_v (v := 1) dX10_choose_143 (by decide) ?_
            refine v_iadd dX10_choose_144 ?_
            refine v_eq (nI_add k 1) ?_
            refine v_iload dX10_choose_145 rfl ?_
            refine v_iconst_v (v := 1) dX10_choose_147 (by decide) ?_
            refine v_iadd dX10_choose_148 ?_
            refine v_eq (nI_add i 1) ?_
            refine v_iload dX10_choose_149 rfl ?_
            refine v_aload_n dX10_choose_151 rfl ?_
            refine mg51 dX10_choose_152 ?_
            refine v_aload_n dX10_choose_155 rfl ?_
            refine mg111 dX10_choose_156 ?_
            refine v_iload dX10_choose_159 rfl ?_
            refine m_ldN 40 (L := 30) hB.cy ⟨rfl, rfl, rfl⟩ rfl (by omega) (by decide) dX10_choose_161 ?_
            refine m_ldN 20 (L := 200) hB.cy ⟨rfl, rfl, rfl⟩ p1 (by omega) (by decide) dX10_choose_162 ?_
            refine v_iadd dX10_choose_163 ?_
            refine v_eq (show nI L + putA ar2 41 k (nI (mp i)) 20 (mp i) = nI (L + ln i) by rw [putA_n _ _ _ (by decide), p3, nI_add]) ?_
            refine v_iload dX10_choose_164 rfl ?_
            refine v_aload_n dX10_choose_166 rfl ?_
            refine mg57 dX10_choose_167 ?_
            refine v_aload_n dX10_choose_170 rfl ?_
            refine mg111 dX10_choose_171 ?_
            refine v_iload dX10_choose_174 rfl ?_
            refine m_ldN 40 (L := 30) hB.cy ⟨rfl, rfl, rfl⟩ rfl (by omega) (by decide) dX10_choose_176 ?_
            refine m_ldN 22 (L := 200) hB.cy ⟨rfl, rfl, rfl⟩ p1 (by omega) (by decide) dX10_choose_177 ?_
            refine v_iadd dX10_choose_178 ?_
            refine v_eq (show nI t + putA ar2 41 k (nI (mp i)) 22 (mp i) = nI (t + ts i) by rw [putA_n _ _ _ (by decide), p4, nI_add]) ?_
            refine v_cVg5 hB k_X10_176 (ihr (k + 1) (i + 1) (L + ln i) (t + ts i) (pre ++ [i]) b sc2 (putA ar2 41 k (nI (mp i))) (by omega) (by omega) (by omega) (by rw [List.length_append, hpl]; rfl) (hCI2.keep (k := 0) ⟨fun _ _ _ => rfl, fun j q1 _ => putA_n _ _ _ q1, fun _ hj => absurd hj (Nat.not_lt_zero _)⟩) ?_ ?_ (by omega)) ⟨by omega, by omega⟩ ⟨by decide, by decide⟩ rfl rfl (Nat.le_of_ble_eq_true rfl) dX10_choose_179 ?_
            · intro j hj
              by_cases e : j = k
              · subst e; rw [putA_s, getD_end _ hpl]
              · rw [putA_m _ _ _ e, getD_app _ hpl (by omega), hCR.2.2 j (by omega)]; exact hch j (by omega)
            · cases b with
              | none => exact hb
              | some q => exact ⟨hb.1, hb.2.1, hb.2.2.1, hb.2.2.2.1, fun j hj => by rw [putA_n _ _ _ (by decide)]; exact hb.2.2.2.2 j hj⟩
            rintro rr ad2 w2 ⟨rfl, rfl, sc3, ar3, rfl, hCR3, hb3⟩
            show V X RX10 cX10_choose 7 none 0 0 ad2 (mW cy ad2 sc3 ar3) 182 _ []
            have hCR4 : CR k sc2 sc3 ar2 ar3 := ⟨hCR3.1, fun j q1 q2 => by rw [hCR3.2.1 j q1 q2, putA_n _ _ _ q1], fun j hj => by rw [hCR3.2.2 j (by omega), putA_m _ _ _ (by omega)]⟩
            refine v_iinc6 (v := 1) dX10_choose_182 (by decide) (by decide) ?_
            rw [nI_1]
            refine v_goto (tgt := 84) dX10_choose_185 (by decide) ?_
            first | exact ih (i + 1) _ sc3 ar3 (by omega) (by omega) (hCR.trans hCR4) hb3 (by rw [← hB2, if_neg h121]) | exact ih (i + 1) b sc2 ar2 (by omega) (by omega) hCR hb (by rw [← hB2, if_pos h121])
          · have h121 : sp + lp * (n - 1) < L + ln i := by
              have z : ¬ L + ln i ≤ sp + lp * (n - 1) := fun z => h121 (nI_le z (by omega))
              omega
            refine v_goto (tgt := 182) dX10_choose_124 (by decide) ?_
            refine v_iinc6 (v := 1) dX10_choose_182 (by decide) (by decide) ?_
            rw [nI_1]
            refine v_goto (tgt := 84) dX10_choose_185 (by decide) ?_
            first | exact ih (i + 1) _ sc3 ar3 (by omega) (by omega) (hCR.trans hCR4) hb3 (by rw [← hB2, if_neg h121]) | exact ih (i + 1) b sc2 ar2 (by omega) (by omega) hCR hb (by rw [← hB2, if_pos h121])
    refine v_iload_n dX10_choose_0 rfl ?_
    refine v_iload_n dX10_choose_1 rfl ?_
    refine v_icmp_ne (tgt := 81) dX10_choose_2 (by decide) (fun h2 => ?_) (fun h2 => ?_)
    · refine v_iload_n dX10_choose_81 rfl ?_
      refine v_istore6 dX10_choose_82 (by decide) ?_
      exact loopm 32 fr b sc ar (by omega) hfr (CR.refl _ _ _) hb hBe
    · exact absurd ((nI_eq (by omega) (by omega)).mp h2) (by omega)
