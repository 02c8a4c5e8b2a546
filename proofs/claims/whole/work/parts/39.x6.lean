theorem JR.less {k k' : Nat} {s1 s2 : Nat → Int32} {a1 a2 : Nat → Nat → Int32} (h : JR k s1 s2 a1 a2) (hk : k' ≤ k) : JR k' s1 s2 a1 a2 := ⟨h.1, h.2.1, fun i p => h.2.2 i (by omega)⟩
def jP (cy : Nat → ClassId) (ad : zA) (sc : Nat → Int32) (ar tau : Nat → Nat → Int32) (js mo : Nat → Int32) (cp cn al : Nat → Nat) (q3 pa : Nat → Nat → Int32) (pn : Nat → Nat) (k n : Nat) (b : zBest) : Option Value → zA → zW → Prop := fun r ad2 w2 => r = none ∧ ad2 = ad ∧ ∃ js2 tau2, w2 = xW cy ad sc ar tau2 js2 mo cp cn al q3 pa pn ∧ JR k js js2 tau tau2 ∧ BX n js2 tau2 b
theorem tbR_none (ln ts : Nat → Nat) (K L : Nat) (hl : ∀ p, p < K → 1 ≤ ln p ∧ ln p ≤ 60) (hL : L < 1 ∨ 60 < L) (k fr : Nat) (hk : fr + k ≤ K) : tbR ln ts L k fr = none := by
  cases h : tbR ln ts L k fr with
  | none => rfl
  | some p =>
    have h1 := tbR_in ln ts L k fr p h
    have h2 := tbR_ln ln ts L k fr p h
    have h3 := hl p (by omega)
    omega
theorem fin_n {ln ts : Nat → Nat} {K M fr t : Nat} {pre : List Nat} {b : zBest} (h : tbR ln ts M (K - fr) fr = none) : finB ln ts K M fr t pre b = b := by unfold finB; rw [h]
theorem fin_s {ln ts : Nat → Nat} {K M fr t p : Nat} {pre : List Nat} {b : zBest} (h : tbR ln ts M (K - fr) fr = some p) : finB ln ts K M fr t pre b = btr b (t + ts p) (pre ++ [p]) := by unfold finB; rw [h]
theorem BX.keep {n : Nat} {js : Nat → Int32} {tau tau' : Nat → Nat → Int32} {b : zBest} (h : BX n js tau b) (h6 : tau' 6 = tau 6) : BX n js tau' b := by
  cases b with
  | none => exact h
  | some q => exact ⟨h.1, h.2.1, h.2.2.1, fun i hi => by rw [h6]; exact h.2.2.2 i hi⟩
set_option maxHeartbeats 4000000 in
set_option maxRecDepth 100000 in
theorem pX4_finish {l : Launch} {D : va_G} {cy : Nat → ClassId} {s0 : State} {ad : zA} {sc : Nat → Int32} {ar tau : Nat → Nat → Int32} {js mo : Nat → Int32} {cp cn al : Nat → Nat} {q3 pa : Nat → Nat → Int32} {pn : Nat → Nat} {mp ln ts : Nat → Nat} {K M fr t n k : Nat} {pre : List Nat} {b : zBest} (hJ : JI mp ln ts K js tau) (hT : TI ln ts K (tau 4)) (hn : n ≤ 3) (hfr : fr ≤ K) (hM : M < 2 ^ 20) (ht : t ≤ 27) (hpl : pre.length = n) (hch : ∀ i, i < n → tau 5 i = nI (pre.getD i 0)) (hb : BX (n + 1) js tau b) : zM l D cy s0 yX4_finish cX4_finish 7 none 1 0 0 [.ref (ad 2 0), .int (nI n), .int (nI fr), .int (nI M), .int (nI t)] ad (xW cy ad sc ar tau js mo cp cn al q3 pa pn) (jP cy ad sc ar tau js mo cp cn al q3 pa pn k (n + 1) (finB ln ts K M fr t pre b)) := by
  refine zM_of (own := RX4) rfl (by decide) (by simp [Value.category]) (Nat.le_of_ble_eq_true rfl) ?_
  intro X hB
  show V X RX4 cX4_finish 7 none 0 0 ad (xW cy ad sc ar tau js mo cp cn al q3 pa pn) 0 [some (.ref (ad 2 0)), some (.int (nI n)), some (.int (nI fr)), some (.int (nI M)), some (.int (nI t)), none, none] []
  obtain ⟨⟨j0, jK⟩, jp⟩ := id hJ
  have hl : ∀ p, p < K → 1 ≤ ln p ∧ ln p ≤ 60 := fun p hp => (jp p hp).2.2.2.1
  refine v_iload_n dX4_finish_0 rfl ?_
  refine v_iconst_v (v := 1) dX4_finish_1 (by decide) ?_
  refine v_icmp_lt (tgt := 24) dX4_finish_2 (by decide) (fun h2 => ?_) (fun h2 => ?_)
  · have h2 : M < 1 := (n_ltI (b := 1) (by omega) (by decide)).mp h2
    exact v_vret hB (by decide) (by decide) dX4_finish_24 ⟨rfl, rfl, js, tau, rfl, JR.refl _ _ _, by rw [fin_n (tbR_none ln ts K M hl (by omega) _ _ (by omega))]; exact hb⟩
  · have h2 : ¬ M < 1 := fun z => h2 ((n_ltI (b := 1) (by omega) (by decide)).mpr z)
    refine v_iload_n dX4_finish_5 rfl ?_
    refine v_bipush_v (v := 61) dX4_finish_6 (by decide) ?_
    refine v_icmp_ge (tgt := 24) dX4_finish_8 (by decide) (fun h8 => ?_) (fun h8 => ?_)
    · have h8 : 61 ≤ M := (nI_leI (a := 61) (by decide) (by omega)).mp h8
      exact v_vret hB (by decide) (by decide) dX4_finish_24 ⟨rfl, rfl, js, tau, rfl, JR.refl _ _ _, by rw [fin_n (tbR_none ln ts K M hl (by omega) _ _ (by omega))]; exact hb⟩
    · have h8 : ¬ 61 ≤ M := fun z => h8 ((nI_leI (a := 61) (by decide) (by omega)).mpr z)
      refine v_iload_n dX4_finish_11 rfl ?_
      refine v_aload_n dX4_finish_12 rfl ?_
      refine xg_X4_30 dX4_finish_13 ?_
      refine v_icmp_gt (tgt := 24) dX4_finish_16 (by decide) (fun h16 => ?_) (fun h16 => ?_)
      · exact absurd h16 (by rw [j0]; exact nI_nlt hfr (by omega))
      · refine v_iload_n dX4_finish_19 rfl ?_
        refine v_iconst_v (v := 4) dX4_finish_20 (by decide) ?_
        refine v_icmp_lt (tgt := 25) dX4_finish_21 (by decide) (fun h21 => ?_) (fun h21 => ?_)
        · refine v_aload_n dX4_finish_25 rfl ?_
          refine xg_X4_21 dX4_finish_26 ?_
          refine v_iload_n dX4_finish_29 rfl ?_
          refine v_bipush_v (v := 61) dX4_finish_30 (by decide) ?_
          refine v_imul dX4_finish_32 ?_
          refine v_eq (show nI fr * 61 = nI (61 * fr) by rw [Nat.mul_comm]; exact pk_mul fr 61) ?_
          refine v_iload_n dX4_finish_33 rfl ?_
          refine v_iadd dX4_finish_34 ?_
          refine v_eq (nI_add (61 * fr) M) ?_
          refine x_ld 4 (L := 1891) hB.cy (by decide) (by decide) rfl rfl (by omega) (by decide) dX4_finish_35 ?_
          refine v_eq (hT fr hfr M (by omega)) ?_
          refine v_istore5 dX4_finish_36 (by decide) ?_
          refine v_iload dX4_finish_38 rfl ?_
          refine v_if_lt (tgt := 120) dX4_finish_40 (by decide) (fun h40 => ?_) (fun h40 => ?_)
          · have h40 : tbR ln ts M (K - fr) fr = none := by
              cases hq : tbR ln ts M (K - fr) fr with
              | none => rfl
              | some p => rw [hq] at h40; exact absurd h40 (nI_pos (by have := tbR_in _ _ _ _ _ _ hq; omega))
            exact v_vret hB (by decide) (by decide) dX4_finish_120 ⟨rfl, rfl, js, tau, rfl, JR.refl _ _ _, by first | (rw [fin_n h40]; exact hb) | (rw [fin_s hp, show btr (some (u, pl)) (t + ts p) (pre ++ [p]) = some (u, pl) from if_neg h66]; exact hb)⟩
          · obtain ⟨p, hp⟩ : ∃ p, tbR ln ts M (K - fr) fr = some p := by
              cases hq : tbR ln ts M (K - fr) fr with
              | none => rw [hq] at h40; exact absurd oI_neg h40
              | some p => exact ⟨p, rfl⟩
            rw [hp]
            show V X RX4 cX4_finish 7 none 0 0 ad _ 43 [some (.ref (ad 2 0)), some (.int (nI n)), some (.int (nI fr)), some (.int (nI M)), some (.int (nI t)), some (.int (nI p)), none] []
            have hpK : p < K := by have := tbR_in _ _ _ _ _ _ hp; omega
            obtain ⟨-, -, tp, -, tp9⟩ := jp p hpK
            refine v_iload dX4_finish_43 rfl ?_
            refine v_aload_n dX4_finish_45 rfl ?_
            refine xg_X4_30 dX4_finish_46 ?_
            refine v_icmp_ge (tgt := 120) dX4_finish_49 (by decide) (fun h49 => ?_) (fun h49 => ?_)
            · exact absurd h49 (by rw [j0]; exact nI_ge hpK (by omega))
            · refine v_iload dX4_finish_52 rfl ?_
              refine v_aload_n dX4_finish_54 rfl ?_
              refine xg_X4_18 dX4_finish_55 ?_
              refine v_iload dX4_finish_58 rfl ?_
              refine x_ld 3 (L := 30) hB.cy (by decide) (by decide) rfl rfl (by omega) (by decide) dX4_finish_60 ?_
              refine v_iadd dX4_finish_61 ?_
              refine v_eq (show nI t + tau 3 p = nI (t + ts p) by rw [tp, nI_add]) ?_
              refine v_aload_n dX4_finish_62 rfl ?_
              refine xg_X4_37 dX4_finish_63 ?_
              refine v_icmp_le (tgt := 120) dX4_finish_66 (by decide) (fun h66 => ?_) (fun h66 => ?_)
              · obtain ⟨u, pl, rfl⟩ : ∃ u pl, b = some (u, pl) := by
                  cases b with
                  | none => rw [show js 1 = -1 from hb] at h66; exact absurd h66 (fun z => absurd (Int32.le_iff_toInt_le.mp z) (by rw [nI_toInt (by omega), show (-1 : Int32).toInt = -1 by decide]; omega))
                  | some q => exact ⟨q.1, q.2, rfl⟩
                have h66 : ¬ u < t + ts p := by
                  rw [hb.1, nI_leI (by omega) (by have := hb.2.1; omega)] at h66; omega
                exact v_vret hB (by decide) (by decide) dX4_finish_120 ⟨rfl, rfl, js, tau, rfl, JR.refl _ _ _, by first | (rw [fin_n h40]; exact hb) | (rw [fin_s hp, show btr (some (u, pl)) (t + ts p) (pre ++ [p]) = some (u, pl) from if_neg h66]; exact hb)⟩
              · have hres : finB ln ts K M fr t pre b = some (t + ts p, pre ++ [p]) := by
                  rw [fin_s hp]
                  cases b with
                  | none => rfl
                  | some q =>
                    obtain ⟨u, pl⟩ := q
                    refine if_pos ?_
                    rcases Nat.lt_or_ge u (t + ts p) with z | z
                    · exact z
                    · exact absurd (by rw [hb.1]; exact nI_le z (by have := hb.2.1; omega)) h66
                have loop : ∀ (m : Nat) (i : Nat) (g : Nat → Int32), n < i + m → i ≤ n → (∀ j, j < i → g j = nI (pre.getD j 0)) → V X RX4 cX4_finish 7 none 0 0 ad (xW cy ad sc ar (upA tau 6 (g)) (upd js 1 (nI (t + ts p))) mo cp cn al q3 pa pn) 86 [some (.ref (ad 2 0)), some (.int (nI n)), some (.int (nI fr)), some (.int (nI M)), some (.int (nI t)), some (.int (nI p)), some (.int (nI i))] [] := by
                  intro m
                  induction m with
                  | zero => intro i g h1 h2 h3; omega
                  | succ m ih =>
                    intro i g h1 h2 h3
                    refine v_iload dX4_finish_86 rfl ?_
                    refine v_iload_n dX4_finish_88 rfl ?_
                    refine v_icmp_ge (tgt := 112) dX4_finish_89 (by decide) (fun h89 => ?_) (fun h89 => ?_)
                    · rw [nI_leI (by omega) (by omega)] at h89
                      refine v_aload_n dX4_finish_112 rfl ?_
                      refine xg_X4_27 dX4_finish_113 ?_
                      refine v_iload_n dX4_finish_116 rfl ?_
                      refine v_iload dX4_finish_117 rfl ?_
                      refine x_st 6 (L := 4) hB.cy (by decide) (by decide) rfl rfl (by omega) (by decide) dX4_finish_119 ?_
                      refine v_w (congrArg (fun z => xW cy ad sc ar z (upd js 1 (nI (t + ts p))) mo cp cn al q3 pa pn) (put_up tau 6 n g (nI p))) ?_
                      refine v_vret hB (by decide) (by decide) dX4_finish_120 ⟨rfl, rfl, _, _, rfl, ⟨fun j q1 => pk_un q1, fun j q1 q2 => upA_n _ _ q2, fun j hj => rfl⟩, ?_⟩
                      rw [hres]
                      refine ⟨pk_us, by omega, by rw [List.length_append, hpl]; rfl, fun j hj => ?_⟩
                      rw [upA_s]
                      by_cases e : j = n
                      · subst e; rw [pk_us, getD_end _ hpl]
                      · rw [pk_un e, getD_app _ hpl (by omega)]; exact h3 j (by omega)
                    · rw [nI_leI (by omega) (by omega)] at h89
                      refine v_aload_n dX4_finish_92 rfl ?_
                      refine xg_X4_27 dX4_finish_93 ?_
                      refine v_iload dX4_finish_96 rfl ?_
                      refine v_aload_n dX4_finish_98 rfl ?_
                      refine xg_X4_24 dX4_finish_99 ?_
                      refine v_iload dX4_finish_102 rfl ?_
                      refine x_ld 5 (L := 4) hB.cy (by decide) (by decide) rfl rfl (by omega) (by decide) dX4_finish_104 ?_
                      refine v_eq (show upA tau 6 g 5 i = nI (pre.getD i 0) from hch i (by omega)) ?_
                      refine x_st 6 (L := 4) hB.cy (by decide) (by decide) rfl rfl (by omega) (by decide) dX4_finish_105 ?_
                      refine v_w (congrArg (fun z => xW cy ad sc ar z (upd js 1 (nI (t + ts p))) mo cp cn al q3 pa pn) (put_up tau 6 i g (nI (pre.getD i 0)))) ?_
                      refine v_iinc6 (v := 1) dX4_finish_106 (by decide) (by decide) ?_
                      rw [nI_1 i]
                      refine v_goto (tgt := 86) dX4_finish_109 (by decide) ?_
                      refine ih (i + 1) _ (by omega) (by omega) (fun j hj => ?_)
                      by_cases e : j = i
                      · subst e; exact pk_us
                      · rw [pk_un e]; exact h3 j (by omega)
                refine v_aload_n dX4_finish_69 rfl ?_
                refine v_iload dX4_finish_70 rfl ?_
                refine v_aload_n dX4_finish_72 rfl ?_
                refine xg_X4_18 dX4_finish_73 ?_
                refine v_iload dX4_finish_76 rfl ?_
                refine x_ld 3 (L := 30) hB.cy (by decide) (by decide) rfl rfl (by omega) (by decide) dX4_finish_78 ?_
                refine v_iadd dX4_finish_79 ?_
                refine v_eq (show nI t + tau 3 p = nI (t + ts p) by rw [tp, nI_add]) ?_
                refine xp_X4_37 dX4_finish_80 ?_
                refine v_iconst_v (v := 0) dX4_finish_83 (by decide) ?_
                refine v_istore6 dX4_finish_84 (by decide) ?_
                refine v_w (congrArg (fun z => xW cy ad sc ar z (upd js 1 (nI (t + ts p))) mo cp cn al q3 pa pn) (up_self tau 6).symm) ?_
                exact loop (n + 1) 0 (tau 6) (by omega) (by omega) (fun j hj => absurd hj (Nat.not_lt_zero _))
        · exact absurd (nI_lt (b := 4) (by omega) (by decide)) h21

