theorem n_sub_lt {a b c : Nat} (ha : a < 2 ^ 30) (hb : b < 2 ^ 30) (hc : c < 2 ^ 30) : nI a - nI b < nI c ↔ a < b + c := by
  rw [Int32.lt_iff_toInt_lt, pk_sub_toInt ha hb, nI_toInt (by omega)]; omega
theorem n_lt_sub {a b c : Nat} (ha : a < 2 ^ 30) (hb : b < 2 ^ 30) (hc : c < 2 ^ 30) : nI c < nI a - nI b ↔ b + c < a := by
  rw [Int32.lt_iff_toInt_lt, pk_sub_toInt ha hb, nI_toInt (by omega)]; omega
set_option maxHeartbeats 4000000 in
set_option maxRecDepth 100000 in
theorem pX4_chooseFrom {l : Launch} {D : va_G} {cy : Nat → ClassId} {s0 : State} {ad : zA} {sc : Nat → Int32} {ar : Nat → Nat → Int32} {mo : Nat → Int32} {cp cn al : Nat → Nat} {q3 pa : Nat → Nat → Int32} {pn : Nat → Nat} {mp ln ts : Nat → Nat} {K T n : Nat} (hn : n ≤ 3) : ∀ (r k fr L M t : Nat) (pre : List Nat) (b : zBest) (js : Nat → Int32) (tau : Nat → Nat → Int32), n = k + r → L + M = T → M < 1000 → t ≤ 9 * k → pre.length = k → JI mp ln ts K js tau → TI ln ts K (tau 4) → (∀ i, i < k → tau 5 i = nI (pre.getD i 0)) → BX (n + 1) js tau b → fr ≤ K →
    zM l D cy s0 yX4_chooseFrom cX4_chooseFrom 8 none (r + 2) 0 0 [.ref (ad 2 0), .int (nI k), .int (nI n), .int (nI fr), .int (nI M), .int (nI t)] ad (xW cy ad sc ar tau js mo cp cn al q3 pa pn) (jP cy ad sc ar tau js mo cp cn al q3 pa pn k (n + 1) (chs ln ts K T (r + 1) fr L t pre b)) := by
  intro r
  induction r with
  | zero =>
    intro k fr L M t pre b js tau hk hT hM ht hpl hJ hTI hch hb hfr
    refine zM_of (own := RX4) rfl (by decide) (by simp [Value.category]) (Nat.le_of_ble_eq_true rfl) ?_
    intro X hB
    show V X RX4 cX4_chooseFrom 8 none 0 0 ad (xW cy ad sc ar tau js mo cp cn al q3 pa pn) 0 [some (.ref (ad 2 0)), some (.int (nI k)), some (.int (nI n)), some (.int (nI fr)), some (.int (nI M)), some (.int (nI t)), none, none] []
    obtain ⟨⟨j0, jK⟩, jp⟩ := id hJ
    have hl : ∀ p, p < K → 1 ≤ ln p ∧ ln p ≤ 60 := fun p hp => (jp p hp).2.2.2.1
    have hkn : k = n := by omega
    subst hkn
    refine v_iload_n dX4_chooseFrom_0 rfl ?_
    refine v_iload_n dX4_chooseFrom_1 rfl ?_
    refine v_icmp_ge (tgt := 10) dX4_chooseFrom_2 (by decide) (fun h2 => ?_) (fun h2 => ?_)
    · refine v_aload_n dX4_chooseFrom_10 rfl ?_
      refine v_iload_n dX4_chooseFrom_11 rfl ?_
      refine v_iload_n dX4_chooseFrom_12 rfl ?_
      refine v_iload dX4_chooseFrom_13 rfl ?_
      refine v_iload dX4_chooseFrom_15 rfl ?_
      refine v_cVg4 hB k_X4_54 (pX4_finish (k := k) (pre := pre) (b := b) hJ hTI hn hfr (by omega) (by omega) hpl hch hb) ⟨by decide, by decide⟩ ⟨by decide, by decide⟩ rfl rfl (Nat.le_of_ble_eq_true rfl) dX4_chooseFrom_17 ?_
      rintro rr ad2 w2 ⟨rfl, rfl, js2, tau2, rfl, hJR, hb2⟩
      show V X RX4 cX4_chooseFrom 8 none 0 0 ad2 _ 20 _ []
      exact v_vret hB (by decide) (by decide) dX4_chooseFrom_20 ⟨rfl, rfl, js2, tau2, rfl, hJR, by rw [chs_1 ln ts K T L fr t pre b (by omega), show T - L = M by omega]; exact hb2⟩
    · exact absurd (nI_le (Nat.le_refl k) (by omega)) h2
  | succ r ihr =>
    intro k fr L M t pre b js tau hk hT hM ht hpl hJ hTI hch hb hfr
    refine zM_of (own := RX4) rfl (by decide) (by simp [Value.category]) (Nat.le_of_ble_eq_true rfl) ?_
    intro X hB
    show V X RX4 cX4_chooseFrom 8 none 0 0 ad (xW cy ad sc ar tau js mo cp cn al q3 pa pn) 0 [some (.ref (ad 2 0)), some (.int (nI k)), some (.int (nI n)), some (.int (nI fr)), some (.int (nI M)), some (.int (nI t)), none, none] []
    obtain ⟨⟨j0, jK⟩, jp⟩ := id hJ
    have hl : ∀ p, p < K → 1 ≤ ln p ∧ ln p ≤ 60 := fun p hp => (jp p hp).2.2.2.1
    generalize hBe : chs ln ts K T (r + 1 + 1) fr L t pre b = B at hB
    rw [chs] at hBe
    have loopm : ∀ (m i : Nat) (b : zBest) (js2 : Nat → Int32) (tau2 : Nat → Nat → Int32) (z7 : Option Value), K < i + m → i ≤ K → JR k js js2 tau tau2 → BX (n + 1) js2 tau2 b → (List.range' i (K - i)).foldl (fun b i => if T < L + ln i then b else chs ln ts K T (r + 1) (i + 1) (L + ln i) (t + ts i) (pre ++ [i]) b) b = B → V X RX4 cX4_chooseFrom 8 none 0 0 ad (xW cy ad sc ar tau2 js2 mo cp cn al q3 pa pn) 24 [some (.ref (ad 2 0)), some (.int (nI k)), some (.int (nI n)), some (.int (nI fr)), some (.int (nI M)), some (.int (nI t)), some (.int (nI i)), z7] [] := by
      intro m
      induction m with
      | zero => intro i b js2 tau2 z7 h1 h2; omega
      | succ m ih =>
        intro i b js2 tau2 z7 h1 h2 hJR hb hB2
        have hJ2 := hJ.keep hJR
        obtain ⟨⟨j0, jK⟩, jp⟩ := id hJ2
        have hskip : ∀ z7, (T < L + ln i + (r + 1) ∨ L + ln i + 60 * (r + 1) < T) → i < K → V X RX4 cX4_chooseFrom 8 none 0 0 ad (xW cy ad sc ar tau2 js2 mo cp cn al q3 pa pn) 24 [some (.ref (ad 2 0)), some (.int (nI k)), some (.int (nI n)), some (.int (nI fr)), some (.int (nI M)), some (.int (nI t)), some (.int (nI (i + 1))), z7] [] := by
          intro z7 hc hiK
          refine ih (i + 1) b js2 tau2 z7 (by omega) (by omega) hJR hb ?_
          rw [← hB2, show K - i = (K - (i + 1)) + 1 by omega, List.range'_succ, List.foldl_cons]
          congr 1
          split
          · rfl
          · exact (chs_no ln ts K T hl (r + 1) _ _ _ _ _ hc).symm
        refine v_iload dX4_chooseFrom_24 rfl ?_
        refine v_aload_n dX4_chooseFrom_26 rfl ?_
        refine xg_X4_30 dX4_chooseFrom_27 ?_
        refine v_icmp_ge (tgt := 102) dX4_chooseFrom_30 (by decide) (fun h30 => ?_) (fun h30 => ?_)
        · rw [j0, nI_leI (by omega) (by omega)] at h30
          exact v_vret hB (by decide) (by decide) dX4_chooseFrom_102 ⟨rfl, rfl, js2, tau2, rfl, hJR, by rw [show K - i = 0 by omega] at hB2; rw [← hB2]; exact hb⟩
        · rw [j0, nI_leI (by omega) (by omega)] at h30
          obtain ⟨-, jl, jt, jl2, jt9⟩ := jp i (by omega)
          refine v_iload dX4_chooseFrom_33 rfl ?_
          refine v_aload_n dX4_chooseFrom_35 rfl ?_
          refine xg_X4_15 dX4_chooseFrom_36 ?_
          refine v_iload dX4_chooseFrom_39 rfl ?_
          refine x_ld 2 (L := 30) hB.cy (by decide) (by decide) rfl rfl (by omega) (by decide) dX4_chooseFrom_41 ?_
          refine v_isub dX4_chooseFrom_42 ?_
          refine v_eq (show nI M - tau2 2 i = nI M - nI (ln i) by rw [jl]) ?_
          refine v_istore7 dX4_chooseFrom_43 (by decide) ?_
          refine v_iload dX4_chooseFrom_45 rfl ?_
          refine v_iload_n dX4_chooseFrom_47 rfl ?_
          refine v_iload_n dX4_chooseFrom_48 rfl ?_
          refine v_isub dX4_chooseFrom_49 ?_
          refine v_eq (show nI n - nI k = nI (r + 1) by rw [pk_sub (by omega)]; congr 1; omega) ?_
          refine v_icmp_lt (tgt := 96) dX4_chooseFrom_50 (by decide) (fun h50 => ?_) (fun h50 => ?_)
          · rw [n_sub_lt (by omega) (by omega) (by omega)] at h50
            refine v_iinc6 (v := 1) dX4_chooseFrom_96 (by decide) (by decide) ?_
            refine v_goto (tgt := 24) dX4_chooseFrom_99 (by decide) ?_
            rw [nI_1 i]
            exact hskip _ (by omega) (by omega)
            -- DONE
          · rw [n_sub_lt (by omega) (by omega) (by omega)] at h50
            refine v_iload dX4_chooseFrom_53 rfl ?_
            refine v_iload_n dX4_chooseFrom_55 rfl ?_
            refine v_iload_n dX4_chooseFrom_56 rfl ?_
            refine v_isub dX4_chooseFrom_57 ?_
            refine v_eq (show nI n - nI k = nI (r + 1) by rw [pk_sub (by omega)]; congr 1; omega) ?_
            refine v_bipush_v (v := 60) dX4_chooseFrom_58 (by decide) ?_
            refine v_imul dX4_chooseFrom_60 ?_
            refine v_eq (show nI (r + 1) * 60 = nI (60 * (r + 1)) by rw [Nat.mul_comm]; exact pk_mul (r + 1) 60) ?_
            refine v_icmp_gt (tgt := 96) dX4_chooseFrom_61 (by decide) (fun h61 => ?_) (fun h61 => ?_)
            · rw [n_lt_sub (by omega) (by omega) (by omega)] at h61
              refine v_iinc6 (v := 1) dX4_chooseFrom_96 (by decide) (by decide) ?_
              refine v_goto (tgt := 24) dX4_chooseFrom_99 (by decide) ?_
              rw [nI_1 i]
              exact hskip _ (by omega) (by omega)
              -- DONE
            · rw [n_lt_sub (by omega) (by omega) (by omega)] at h61
              rw [pk_sub (show ln i ≤ M by omega)]
              refine v_aload_n dX4_chooseFrom_64 rfl ?_
              refine xg_X4_24 dX4_chooseFrom_65 ?_
              refine v_iload_n dX4_chooseFrom_68 rfl ?_
              refine v_iload dX4_chooseFrom_69 rfl ?_
              refine x_st 5 (L := 4) hB.cy (by decide) (by decide) rfl rfl (by omega) (by decide) dX4_chooseFrom_71 ?_
              refine v_aload_n dX4_chooseFrom_72 rfl ?_
              refine v_iload_n dX4_chooseFrom_73 rfl ?_
              refine v_iconst_v (v := 1) dX4_chooseFrom_74 (by decide) ?_
              refine v_iadd dX4_chooseFrom_75 ?_
              refine v_eq (nI_add k 1) ?_
              refine v_iload_n dX4_chooseFrom_76 rfl ?_
              refine v_iload dX4_chooseFrom_77 rfl ?_
              refine v_iconst_v (v := 1) dX4_chooseFrom_79 (by decide) ?_
              refine v_iadd dX4_chooseFrom_80 ?_
              refine v_eq (nI_add i 1) ?_
              refine v_iload dX4_chooseFrom_81 rfl ?_
              refine v_iload dX4_chooseFrom_83 rfl ?_
              refine v_aload_n dX4_chooseFrom_85 rfl ?_
              refine xg_X4_18 dX4_chooseFrom_86 ?_
              refine v_iload dX4_chooseFrom_89 rfl ?_
              refine x_ld 3 (L := 30) hB.cy (by decide) (by decide) rfl rfl (by omega) (by decide) dX4_chooseFrom_91 ?_
              refine v_iadd dX4_chooseFrom_92 ?_
              refine v_eq (show nI t + putA tau2 5 k (nI i) 3 i = nI (t + ts i) by rw [putA_n _ _ _ (by decide), jt, nI_add]) ?_
              have hJx : JI mp ln ts K js2 (putA tau2 5 k (nI i)) := hJ2.keep (k := 0) ⟨fun _ _ => rfl, fun j q1 _ => putA_n _ _ _ q1, fun _ hj => absurd hj (Nat.not_lt_zero _)⟩
              have hTx : TI ln ts K (putA tau2 5 k (nI i) 4) := by rw [putA_n _ _ _ (by decide), hJR.2.1 4 (by decide) (by decide)]; exact hTI
              refine v_cVg5 hB k_X4_40 (ihr (k + 1) (i + 1) (L + ln i) (M - ln i) (t + ts i) (pre ++ [i]) b js2 (putA tau2 5 k (nI i)) (by omega) (by omega) (by omega) (by omega) (by rw [List.length_append, hpl]; rfl) hJx hTx ?_ (hb.keep (putA_n _ _ _ (by decide))) (by omega)) ⟨by omega, by omega⟩ ⟨by decide, by decide⟩ rfl rfl (Nat.le_of_ble_eq_true rfl) dX4_chooseFrom_93 ?_
              · intro j hj
                by_cases e : j = k
                · subst e; rw [putA_s, getD_end _ hpl]
                · rw [putA_m _ _ _ e, getD_app _ hpl (by omega), hJR.2.2 j (by omega)]; exact hch j (by omega)
              rintro rr ad2 w2 ⟨rfl, rfl, js3, tau3, rfl, hJR3, hb3⟩
              show V X RX4 cX4_chooseFrom 8 none 0 0 ad2 _ 96 _ []
              have hJR4 : JR k js2 js3 tau2 tau3 := ⟨hJR3.1, fun j q1 q2 => by rw [hJR3.2.1 j q1 q2, putA_n _ _ _ q1], fun j hj => by rw [hJR3.2.2 j (by omega), putA_m _ _ _ (by omega)]⟩
              refine v_iinc6 (v := 1) dX4_chooseFrom_96 (by decide) (by decide) ?_
              rw [nI_1 i]
              refine v_goto (tgt := 24) dX4_chooseFrom_99 (by decide) ?_
              refine ih (i + 1) _ js3 tau3 _ (by omega) (by omega) (hJR.trans hJR4) hb3 ?_
              rw [← hB2, show K - i = (K - (i + 1)) + 1 by omega, List.range'_succ, List.foldl_cons, if_neg (by omega)]
    refine v_iload_n dX4_chooseFrom_0 rfl ?_
    refine v_iload_n dX4_chooseFrom_1 rfl ?_
    refine v_icmp_ge (tgt := 10) dX4_chooseFrom_2 (by decide) (fun h2 => ?_) (fun h2 => ?_)
    · exact absurd h2 (nI_ge (by omega) (by omega))
    · refine v_iload_n dX4_chooseFrom_5 rfl ?_
      refine v_iconst_v (v := 4) dX4_chooseFrom_6 (by decide) ?_
      refine v_icmp_lt (tgt := 21) dX4_chooseFrom_7 (by decide) (fun h7 => ?_) (fun h7 => ?_)
      · refine v_iload_n dX4_chooseFrom_21 rfl ?_
        refine v_istore6 dX4_chooseFrom_22 (by decide) ?_
        exact loopm (K + 1) fr b js tau none (by omega) hfr (JR.refl _ _ _) hb hBe
      · exact absurd (nI_lt (b := 4) (by omega) (by decide)) h7
def sbP (cy : Nat → ClassId) (ad : zA) (sc : Nat → Int32) (ar tau : Nat → Nat → Int32) (js mo : Nat → Int32) (cp cn al : Nat → Nat) (q3 pa : Nat → Nat → Int32) (pn : Nat → Nat) (Q : Option (List Nat)) : Option Value → zA → zW → Prop := fun r ad2 w2 => ∃ v, r = some (.int v) ∧ ad2 = ad ∧ ∃ js2 tau2, w2 = xW cy ad sc ar tau2 js2 mo cp cn al q3 pa pn ∧ js2 0 = js 0 ∧ tau2 1 = tau 1 ∧ match Q with
  | none => v = 0
  | some p => v = nI p.length ∧ 1 ≤ p.length ∧ p.length ≤ 4 ∧ ∀ i, i < p.length → tau2 6 i = nI (p.getD i 0)
set_option maxHeartbeats 4000000 in
set_option maxRecDepth 100000 in
theorem pX4_sizeOfBest {l : Launch} {D : va_G} {cy : Nat → ClassId} {s0 : State} {ad : zA} {sc : Nat → Int32} {ar tau : Nat → Nat → Int32} {js mo : Nat → Int32} {cp cn al : Nat → Nat} {q3 pa : Nat → Nat → Int32} {pn : Nat → Nat} {mp ln ts : Nat → Nat} {K sp lp : Nat} (hJ : JI mp ln ts K js tau) (hsp : sp ≤ 99) (hlp : lp ≤ 9) : zM l D cy s0 yX4_sizeOfBest cX4_sizeOfBest 4 (some .int) 6 0 0 [.ref (ad 2 0), .int (nI sp), .int (nI lp)] ad (xW cy ad sc ar tau js mo cp cn al q3 pa pn) (sbP cy ad sc ar tau js mo cp cn al q3 pa pn (fBst (fun n => chs ln ts K (sp + lp * (n - 1)) n 0 0 0 [] none))) := by
  refine zM_of (own := RX4) rfl (by decide) (by simp [Value.category]) (Nat.le_of_ble_eq_true rfl) ?_
  intro X hB
  show V X RX4 cX4_sizeOfBest 4 (some .int) 0 0 ad (xW cy ad sc ar tau js mo cp cn al q3 pa pn) 0 [some (.ref (ad 2 0)), some (.int (nI sp)), some (.int (nI lp)), none] []
  have loop : ∀ (m n : Nat) (js2 : Nat → Int32) (tau2 : Nat → Nat → Int32), 5 < n + m → 1 ≤ n → n ≤ 5 → JI mp ln ts K js2 tau2 → TI ln ts K (tau2 4) → js2 0 = js 0 → tau2 1 = tau 1 → (∀ j, 1 ≤ j → j < n → (fun n => chs ln ts K (sp + lp * (n - 1)) n 0 0 0 [] none) j = none) → V X RX4 cX4_sizeOfBest 4 (some .int) 0 0 ad (xW cy ad sc ar tau2 js2 mo cp cn al q3 pa pn) 6 [some (.ref (ad 2 0)), some (.int (nI sp)), some (.int (nI lp)), some (.int (nI n))] [] := by
    intro m
    induction m with
    | zero => intro n js2 tau2 h1 h2; omega
    | succ m ih =>
      intro n js2 tau2 h1 h2 h3 hJ2 hT2 e0 e1 hno
      refine v_iload_n dX4_sizeOfBest_6 rfl ?_
      refine v_iconst_v (v := 4) dX4_sizeOfBest_7 (by decide) ?_
      refine v_icmp_gt (tgt := 49) dX4_sizeOfBest_8 (by decide) (fun h8 => ?_) (fun h8 => ?_)
      · have h8 : 4 < n := (n_ltI (a := 4) (by decide) (by omega)).mp h8
        refine v_iconst_v (v := 0) dX4_sizeOfBest_49 (by decide) ?_
        refine v_iret hB (by decide) (by decide) dX4_sizeOfBest_50 ⟨_, rfl, rfl, js2, tau2, rfl, e0, e1, ?_⟩
        rw [fBst_none (fun j q1 q2 => hno j q1 (by omega))]
      · have h8 : ¬ 4 < n := fun z => h8 ((n_ltI (a := 4) (by decide) (by omega)).mpr z)
        have hmul : lp * (n - 1) ≤ 27 := Nat.le_trans (Nat.mul_le_mul hlp (show n - 1 ≤ 3 by omega)) (by decide)
        refine v_aload_n dX4_sizeOfBest_11 rfl ?_
        refine v_iconst_v (v := -1) dX4_sizeOfBest_12 (by decide) ?_
        refine xp_X4_37 dX4_sizeOfBest_13 ?_
        refine v_aload_n dX4_sizeOfBest_16 rfl ?_
        refine v_iconst_v (v := 0) dX4_sizeOfBest_17 (by decide) ?_
        refine v_iload_n dX4_sizeOfBest_18 rfl ?_
        refine v_iconst_v (v := 1) dX4_sizeOfBest_19 (by decide) ?_
        refine v_isub dX4_sizeOfBest_20 ?_
        refine v_eq (show nI n - 1 = nI (n - 1) from pk_sub (b := 1) (by omega)) ?_
        refine v_iconst_v (v := 0) dX4_sizeOfBest_21 (by decide) ?_
        refine v_iload_n dX4_sizeOfBest_22 rfl ?_
        refine v_iload_n dX4_sizeOfBest_23 rfl ?_
        refine v_iload_n dX4_sizeOfBest_24 rfl ?_
        refine v_iconst_v (v := 1) dX4_sizeOfBest_25 (by decide) ?_
        refine v_isub dX4_sizeOfBest_26 ?_
        refine v_eq (show nI n - 1 = nI (n - 1) from pk_sub (b := 1) (by omega)) ?_
        refine v_imul dX4_sizeOfBest_27 ?_
        refine v_eq (pk_mul lp (n - 1)) ?_
        refine v_iadd dX4_sizeOfBest_28 ?_
        refine v_eq (nI_add sp (lp * (n - 1))) ?_
        refine v_iconst_v (v := 0) dX4_sizeOfBest_29 (by decide) ?_
        have hJx : JI mp ln ts K (upd js2 1 (-1)) tau2 := hJ2.keep (k := 0) ⟨fun j q1 => pk_un q1, fun _ _ _ => rfl, fun _ hj => absurd hj (Nat.not_lt_zero _)⟩
        refine v_cVg5 hB k_X4_40 (pX4_chooseFrom (mp := mp) (ln := ln) (ts := ts) (K := K) (T := sp + lp * (n - 1)) (n := n - 1) (by omega) (n - 1) 0 0 0 (sp + lp * (n - 1)) 0 [] none (upd js2 1 (-1)) tau2 (by omega) (by omega) (by omega) (by omega) rfl hJx hT2 (fun i hi => absurd hi (Nat.not_lt_zero _)) (show upd js2 1 (-1) 1 = -1 from pk_us) (Nat.zero_le _)) ⟨by omega, by omega⟩ ⟨by decide, by decide⟩ rfl rfl (Nat.le_of_ble_eq_true rfl) dX4_sizeOfBest_30 ?_
        rintro rr ad2 w2 ⟨rfl, rfl, js3, tau3, rfl, hJR3, hb2⟩
        show V X RX4 cX4_sizeOfBest 4 (some .int) 0 0 ad2 _ 33 _ []
        have f0 : js3 0 = js 0 := by rw [hJR3.1 0 (by decide), pk_un (by decide)]; exact e0
        have f1 : tau3 1 = tau 1 := by rw [hJR3.2.1 1 (by decide) (by decide)]; exact e1
        refine v_aload_n dX4_sizeOfBest_33 rfl ?_
        refine xg_X4_37 dX4_sizeOfBest_34 ?_
        refine v_iconst_v (v := -1) dX4_sizeOfBest_37 (by decide) ?_
        refine v_icmp_eq (tgt := 43) dX4_sizeOfBest_38 (by decide) (fun h38 => ?_) (fun h38 => ?_)
        · have hqn : (fun n => chs ln ts K (sp + lp * (n - 1)) n 0 0 0 [] none) n = none := by
            cases hc : (fun n => chs ln ts K (sp + lp * (n - 1)) n 0 0 0 [] none) n with
            | none => rfl
            | some q =>
              have hc2 : chs ln ts K (sp + lp * (n - 1)) (n - 1 + 1) 0 0 0 [] none = some q := by rw [show n - 1 + 1 = n by omega]; exact hc
              rw [hc2] at hb2
              exact absurd (hb2.1.symm.trans h38) (fun z => by have := congrArg Int32.toInt z; rw [nI_toInt (by have := hb2.2.1; omega), show (-1 : Int32).toInt = -1 by decide] at this; omega)
          refine v_iinc3 (v := 1) dX4_sizeOfBest_43 (by decide) (by decide) ?_
          rw [nI_1 n]
          refine v_goto (tgt := 6) dX4_sizeOfBest_46 (by decide) ?_
          refine ih (n + 1) js3 tau3 (by omega) (by omega) (by omega) (hJx.keep hJR3) (by rw [hJR3.2.1 4 (by decide) (by decide)]; exact hT2) f0 f1 (fun j q1 q2 => ?_)
          by_cases e : j = n
          · rw [e]; exact hqn
          · exact hno j q1 (by omega)
        · obtain ⟨q, hqn⟩ : ∃ q, (fun n => chs ln ts K (sp + lp * (n - 1)) n 0 0 0 [] none) n = some q := by
            cases hc : (fun n => chs ln ts K (sp + lp * (n - 1)) n 0 0 0 [] none) n with
            | none =>
              have hc2 : chs ln ts K (sp + lp * (n - 1)) (n - 1 + 1) 0 0 0 [] none = none := by rw [show n - 1 + 1 = n by omega]; exact hc
              rw [hc2] at hb2
              exact absurd hb2 h38
            | some q => exact ⟨q, rfl⟩
          obtain ⟨u, pl⟩ := q
          have hc2 : chs ln ts K (sp + lp * (n - 1)) (n - 1 + 1) 0 0 0 [] none = some (u, pl) := by rw [show n - 1 + 1 = n by omega]; exact hqn
          rw [hc2] at hb2
          obtain ⟨g1, g2, g3, g4⟩ := hb2
          refine v_iload_n dX4_sizeOfBest_41 rfl ?_
          refine v_iret hB (by decide) (by decide) dX4_sizeOfBest_42 ⟨_, rfl, rfl, js3, tau3, rfl, f0, f1, ?_⟩
          rw [fBst_some h2 (by omega) hno hqn]
          exact ⟨by rw [g3]; congr 1; omega, by omega, by omega, fun i hi => g4 i (by omega)⟩
  refine v_aload_n dX4_sizeOfBest_0 rfl ?_
  refine v_cVg0 hB k_X4_34 (pX4_fillTastiest hJ) ⟨by decide, by decide⟩ ⟨by decide, by decide⟩ rfl rfl (Nat.le_of_ble_eq_true rfl) dX4_sizeOfBest_1 ?_
  rintro rr ad2 w2 ⟨rfl, rfl, f4, rfl, hTI⟩
  show V X RX4 cX4_sizeOfBest 4 (some .int) 0 0 ad2 _ 4 _ []
  refine v_iconst_v (v := 1) dX4_sizeOfBest_4 (by decide) ?_
  refine v_istore_n3 dX4_sizeOfBest_5 (by decide) ?_
  exact loop 5 1 js _ (by omega) (by omega) (by omega) (hJ.up4 f4) (by rw [upA_s]; exact hTI) rfl rfl (fun j q1 q2 => by omega)

