set_option maxHeartbeats 4000000 in
set_option maxRecDepth 100000 in
theorem pX5_clear {l : Launch} {D : va_G} {cy : Nat → ClassId} {s0 : State} {ad : zA} {sc : Nat → Int32} {ar tau : Nat → Nat → Int32} {js mo : Nat → Int32} {cp cn al : Nat → Nat} {q3 pa : Nat → Nat → Int32} {pn : Nat → Nat}  : zM l D cy s0 yX5_clear cX5_clear 1 none 1 0 0 [.ref (ad 3 0)] ad (xW cy ad sc ar tau js mo cp cn al q3 pa pn) (zPv ad (xW cy ad sc ar tau (upd js 2 0) mo cp cn al q3 pa pn)) := by
  refine zM_of (own := RX5) rfl (by decide) (by simp [Value.category]) (Nat.le_of_ble_eq_true rfl) ?_
  intro X hB
  show V X RX5 cX5_clear 1 none 0 0 ad (xW cy ad sc ar tau js mo cp cn al q3 pa pn) 0 [some (.ref (ad 3 0))] []
  refine v_aload_n dX5_clear_0 rfl ?_
  refine v_iconst_v (v := 0) dX5_clear_1 (by decide) ?_
  refine xp_X5_24 dX5_clear_2 ?_
  exact v_vret hB (by decide) (by decide) dX5_clear_5 ⟨rfl, rfl, rfl⟩

set_option maxHeartbeats 4000000 in
set_option maxRecDepth 100000 in
theorem pX5_takes1 {l : Launch} {D : va_G} {cy : Nat → ClassId} {s0 : State} {ad : zA} {sc : Nat → Int32} {ar tau : Nat → Nat → Int32} {js mo : Nat → Int32} {cp cn al : Nat → Nat} {q3 pa : Nat → Nat → Int32} {pn : Nat → Nat} {x : Int32} {n : Nat} (h2 : js 2 = nI n) (hn : n < 12) : zM l D cy s0 yX5_takes cX5_takes 2 (some .boolean) 1 0 0 [.ref (ad 3 0), .int x] ad (xW cy ad sc ar tau js mo cp cn al q3 pa pn) (zPi 1 ad (xW cy ad sc ar (putA tau 7 n x) (upd js 2 (nI (n + 1))) mo cp cn al q3 pa pn)) := by
  refine zM_of (own := RX5) rfl (by decide) (by simp [Value.category]) (Nat.le_of_ble_eq_true rfl) ?_
  intro X hB
  show V X RX5 cX5_takes 2 (some .boolean) 0 0 ad (xW cy ad sc ar tau js mo cp cn al q3 pa pn) 0 [some (.ref (ad 3 0)), some (.int x)] []
  refine v_aload_n dX5_takes_0 rfl ?_
  refine xg_X5_24 dX5_takes_1 ?_
  refine v_bipush_v (v := 12) dX5_takes_4 (by decide) ?_
  refine v_icmp_lt (tgt := 11) dX5_takes_6 (by decide) (fun h6 => ?_) (fun h6 => ?_)
  · refine v_aload_n dX5_takes_11 rfl ?_
    refine xg_X5_9 dX5_takes_12 ?_
    refine v_aload_n dX5_takes_15 rfl ?_
    refine xg_X5_24 dX5_takes_16 ?_
    refine v_iload_n dX5_takes_19 rfl ?_
    refine x_st 7 (L := 12) hB.cy (by decide) (by decide) rfl h2 (by omega) (by decide) dX5_takes_20 ?_
    refine v_aload_n dX5_takes_21 rfl ?_
    refine v_dup dX5_takes_22 rfl ?_
    refine xg_X5_24 dX5_takes_23 ?_
    refine v_iconst_v (v := 1) dX5_takes_26 (by decide) ?_
    refine v_iadd dX5_takes_27 ?_
    refine v_eq (show js 2 + 1 = nI (n + 1) by rw [h2]; exact nI_add n 1) ?_
    refine xp_X5_24 dX5_takes_28 ?_
    refine v_iconst_v (v := 1) dX5_takes_31 (by decide) ?_
    exact v_zret hB (by decide) (by decide) dX5_takes_32 rfl ⟨rfl, rfl, rfl⟩
  · exact absurd (by rw [h2]; exact nI_lt (b := 12) hn (by decide)) h6

set_option maxHeartbeats 4000000 in
set_option maxRecDepth 100000 in
theorem pX5_takes0 {l : Launch} {D : va_G} {cy : Nat → ClassId} {s0 : State} {ad : zA} {sc : Nat → Int32} {ar tau : Nat → Nat → Int32} {js mo : Nat → Int32} {cp cn al : Nat → Nat} {q3 pa : Nat → Nat → Int32} {pn : Nat → Nat} {x : Int32} (h2 : js 2 = nI 12) : zM l D cy s0 yX5_takes cX5_takes 2 (some .boolean) 1 0 0 [.ref (ad 3 0), .int x] ad (xW cy ad sc ar tau js mo cp cn al q3 pa pn) (zPi 0 ad (xW cy ad sc ar tau js mo cp cn al q3 pa pn)) := by
  refine zM_of (own := RX5) rfl (by decide) (by simp [Value.category]) (Nat.le_of_ble_eq_true rfl) ?_
  intro X hB
  show V X RX5 cX5_takes 2 (some .boolean) 0 0 ad (xW cy ad sc ar tau js mo cp cn al q3 pa pn) 0 [some (.ref (ad 3 0)), some (.int x)] []
  refine v_aload_n dX5_takes_0 rfl ?_
  refine xg_X5_24 dX5_takes_1 ?_
  refine v_bipush_v (v := 12) dX5_takes_4 (by decide) ?_
  refine v_icmp_lt (tgt := 11) dX5_takes_6 (by decide) (fun h6 => ?_) (fun h6 => ?_)
  · exact absurd h6 (by rw [h2]; decide)
  · refine v_iconst_v (v := 0) dX5_takes_9 (by decide) ?_
    exact v_zret hB (by decide) (by decide) dX5_takes_10 rfl ⟨rfl, rfl, rfl⟩

theorem sN_793 : ∀ K, K < 13 → sN (nd 3) K ≤ 793 := by decide +kernel
def GJ (Q : Nat → Bool) (K : Nat) (tau : Nat → Nat → Int32) (f c F : Nat) (g : Nat → Nat) (js1 : Nat → Int32) (tau1 : Nat → Nat → Int32) : Prop :=
  (js1 2 = nI K ∧ js1 3 = nI c ∧ js1 4 = nI F ∧ 1 ≤ F ∧ F ≤ 4) ∧ tau1 7 = tau 7 ∧ (∀ a, a < f → tau1 9 a = nI (g a)) ∧ g f = c ∧ (∀ a, a ≤ f → g a ≤ c) ∧
  ∀ a, a < f → g a ≤ g (a + 1) ∧ (∀ j, g a ≤ j → j < g (a + 1) → ∃ q, tau1 8 j = nI q ∧ q < 2 ^ K ∧ Q q = true ∧ agr q (2 ^ a) (a + 1)) ∧ ∀ q, q < 2 ^ K → Q q = true → agr q (2 ^ a) (a + 1) → (∃ j, g a ≤ j ∧ j < g (a + 1) ∧ tau1 8 j = nI q) ∧ F ≤ cnB q K
theorem GJ.step {Q : Nat → Bool} {K : Nat} {tau : Nat → Nat → Int32} {f c F : Nat} {g : Nat → Nat} {js1 : Nat → Int32} {tau1 : Nat → Nat → Int32} {c2 F2 : Nat} {js2 : Nat → Int32} {tau2 : Nat → Nat → Int32}
    (h : GJ Q K tau f c F g js1 tau1) (h2 : KV Q K (2 ^ f) (f + 1) c F js1 (putA tau1 9 f (nI c)) K c2 F2 js2 tau2) : GJ Q K tau (f + 1) c2 F2 (fun x => if x = f + 1 then c2 else g x) js2 tau2 := by
  obtain ⟨⟨a1, a2, a3, a4, a4b⟩, a5, a6, a7, a8, a9⟩ := h
  obtain ⟨b1, ⟨b2, b3, b4⟩, b5, b6, b7, b8⟩ := h2
  have e9 : tau2 9 = putA tau1 9 f (nI c) 9 := b3 9 (by decide)
  have gs : ∀ a, a ≤ f → (fun x => if x = f + 1 then c2 else g x) a = g a := fun a ha => if_neg (by omega)
  have gf : (fun x => if x = f + 1 then c2 else g x) (f + 1) = c2 := if_pos rfl
  refine ⟨⟨by rw [b2 2 (by decide) (by decide)]; exact a1, b1.1, b1.2, b6.1, by omega⟩, by rw [b3 7 (by decide), putA_n _ _ _ (by decide)]; exact a5, ?_, gf, ?_, ?_⟩
  · intro a ha
    rw [e9, gs a (by omega)]
    by_cases e : a = f
    · subst e; rw [putA_s, a7]
    · rw [putA_m _ _ _ e]; exact a6 a (by omega)
  · intro a ha
    by_cases e : a = f + 1
    · subst e; rw [gf]; exact Nat.le_refl _
    · rw [gs a (by omega)]; have := a8 a (by omega); omega
  · intro a ha
    rw [gs a (by omega)]
    by_cases e : a = f
    · subst e
      rw [gf, a7]
      refine ⟨b5, fun j p1 p2 => b7 j p1 p2, fun q q1 q2 q3 => b8 q q1 q2 q3 (agr_cases q1 ?_ q3)⟩
      exact Nat.pow_lt_pow_right (by decide) (by omega)
    · rw [gs (a + 1) (by omega)]
      obtain ⟨d1, d2, d3⟩ := a9 a (by omega)
      have hgc := a8 (a + 1) (by omega)
      have e8 : ∀ j, j < c → tau2 8 j = tau1 8 j := fun j hj => by rw [b4 j hj, putA_n _ _ _ (by decide)]
      refine ⟨d1, fun j p1 p2 => ?_, fun q q1 q2 q3 => ?_⟩
      · rw [e8 j (by omega)]; exact d2 j p1 p2
      · obtain ⟨⟨j, j1, j2, j3⟩, j4⟩ := d3 q q1 q2 q3
        exact ⟨⟨j, j1, j2, by rw [e8 j (by omega)]; exact j3⟩, by omega⟩
def mqP (cy : Nat → ClassId) (ad : zA) (sc : Nat → Int32) (ar : Nat → Nat → Int32) (mo : Nat → Int32) (cp cn al : Nat → Nat) (q3 pa : Nat → Nat → Int32) (pn : Nat → Nat) (v : Nat) : Option Value → zA → zW → Prop := fun r ad2 w2 => r = some (.int (nI v)) ∧ ad2 = ad ∧ ∃ js2 tau2, w2 = xW cy ad sc ar tau2 js2 mo cp cn al q3 pa pn
theorem ct_0 : ∀ n, cnB 0 n = 0
  | 0 => rfl
  | n + 1 => by
    show cnB 0 n + (if (0 : Nat).testBit n then 1 else 0) = 0
    rw [ct_0 n, Nat.zero_testBit]; rfl
set_option maxHeartbeats 4000000 in
set_option maxRecDepth 100000 in
theorem pX5_mostQuills {l : Launch} {D : va_G} {cy : Nat → ClassId} {s0 : State} {ad : zA} {sc : Nat → Int32} {ar tau : Nat → Nat → Int32} {js mo : Nat → Int32} {cp cn al : Nat → Nat} {q3 pa : Nat → Nat → Int32} {pn : Nat → Nat} {ln : Nat → Nat} {K sp lp : Nat} (hsp : sp ≤ 99) (hlp : lp ≤ 9) (hPI : PI ln K js tau) : zM l D cy s0 yX5_mostQuills cX5_mostQuills 5 (some .int) 40 0 0 [.ref (ad 3 0), .int (nI sp), .int (nI lp)] ad (xW cy ad sc ar tau js mo cp cn al q3 pa pn) (mqP cy ad sc ar mo cp cn al q3 pa pn (mkT (isQ ln K sp lp) (2 ^ K) (2 ^ K - 1))) := by
  refine zM_of (own := RX5) rfl (by decide) (by simp [Value.category]) (Nat.le_of_ble_eq_true rfl) ?_
  intro X hB
  show V X RX5 cX5_mostQuills 5 (some .int) 0 0 ad (xW cy ad sc ar tau js mo cp cn al q3 pa pn) 0 [some (.ref (ad 3 0)), some (.int (nI sp)), some (.int (nI lp)), none, none] []
  obtain ⟨⟨j2, jK⟩, jp⟩ := id hPI
  have h4096 := p_2K jK
  have hpos := Nat.two_pow_pos K
  have K81 : ∀ (js1 : Nat → Int32) (tau1 : Nat → Nat → Int32) (F : Nat) (g : Nat → Nat), GI (isQ ln K sp lp) K F g js1 tau1 → ∀ (m i : Nat) (k : Nat → Int32), 2 ^ K < i + m → i ≤ 2 ^ K → (∀ x, x < i → k x = -1) → V X RX5 cX5_mostQuills 5 (some .int) 0 0 ad (xW cy ad sc ar (upA tau1 10 k) js1 mo cp cn al q3 pa pn) 81 [some (.ref (ad 3 0)), some (.int (nI sp)), some (.int (nI lp)), some (.int (nI (2 ^ K - 1))), some (.int (nI i))] [] := by
    intro js1 tau1 F g hG m
    induction m with
    | zero => intro i k h1 h2; omega
    | succ m ih =>
      intro i k h1 h2 hk
      refine v_iload dX5_mostQuills_81 rfl ?_
      refine v_iload_n dX5_mostQuills_83 rfl ?_
      refine v_icmp_gt (tgt := 101) dX5_mostQuills_84 (by decide) (fun h84 => ?_) (fun h84 => ?_)
      · rw [n_ltI (by omega) (by omega)] at h84
        refine v_aload_n dX5_mostQuills_101 rfl ?_
        refine v_iconst_v (v := 0) dX5_mostQuills_102 (by decide) ?_
        refine v_iload_n dX5_mostQuills_103 rfl ?_
        refine v_cVg2 hB k_X5_38 (pX5_mostOf hG K 0 (2 ^ K - 1) k (by omega) (by omega) (fun i hi => absurd hi (Nat.not_lt_zero _)) (fun x hx => Or.inl (hk x (by omega)))) ⟨by omega, by omega⟩ ⟨by decide, by decide⟩ rfl rfl (Nat.le_of_ble_eq_true rfl) dX5_mostQuills_104 ?_
        rintro rr ad2 w2 ⟨rfl, rfl, k2, rfl, hk2⟩
        show V X RX5 cX5_mostQuills 5 (some .int) 0 0 ad2 _ 107 _ [_]
        exact v_iret hB (by decide) (by decide) dX5_mostQuills_107 ⟨rfl, rfl, _, _, rfl⟩
      · rw [n_ltI (by omega) (by omega)] at h84
        refine v_aload_n dX5_mostQuills_87 rfl ?_
        refine xg_X5_21 dX5_mostQuills_88 ?_
        refine v_iload dX5_mostQuills_91 rfl ?_
        refine v_iconst_v (v := -1) dX5_mostQuills_93 (by decide) ?_
        refine x_st 10 (L := 4096) hB.cy (by decide) (by decide) rfl rfl (by omega) (by decide) dX5_mostQuills_94 ?_
        refine v_w (congrArg (fun z => xW cy ad sc ar z js1 mo cp cn al q3 pa pn) (put_up tau1 10 i k (-1))) ?_
        refine v_iinc4 (v := 1) dX5_mostQuills_95 (by decide) (by decide) ?_
        rw [nI_1 i]
        refine v_goto (tgt := 81) dX5_mostQuills_98 (by decide) ?_
        refine ih (i + 1) _ (by omega) (by omega) (fun x hx => ?_)
        by_cases e : x = i
        · subst e; exact pk_us
        · rw [pk_un e]; exact hk x (by omega)
  have loop : ∀ (m f c F : Nat) (g : Nat → Nat) (js1 : Nat → Int32) (tau1 : Nat → Nat → Int32), K < f + m → f ≤ K → GJ (isQ ln K sp lp) K tau f c F g js1 tau1 → c + sN (nd 3) (K - f) ≤ 793 → V X RX5 cX5_mostQuills 5 (some .int) 0 0 ad (xW cy ad sc ar tau1 js1 mo cp cn al q3 pa pn) 12 [some (.ref (ad 3 0)), some (.int (nI sp)), some (.int (nI lp)), some (.int (nI f)), none] [] := by
    intro m
    induction m with
    | zero => intro f c F g js1 tau1 h1 h2; omega
    | succ m ih =>
      intro f c F g js1 tau1 h1 h2 hGJ hc
      obtain ⟨⟨a1, a2, a3, a4, a4b⟩, a5, a6, a7, a8, a9⟩ := id hGJ
      refine v_iload_n dX5_mostQuills_12 rfl ?_
      refine v_aload_n dX5_mostQuills_13 rfl ?_
      refine xg_X5_24 dX5_mostQuills_14 ?_
      refine v_icmp_ge (tgt := 56) dX5_mostQuills_17 (by decide) (fun h17 => ?_) (fun h17 => ?_)
      · rw [a1, nI_leI (by omega) (by omega)] at h17
        refine v_aload_n dX5_mostQuills_56 rfl ?_
        refine xg_X5_18 dX5_mostQuills_57 ?_
        refine v_aload_n dX5_mostQuills_60 rfl ?_
        refine xg_X5_24 dX5_mostQuills_61 ?_
        refine v_aload_n dX5_mostQuills_64 rfl ?_
        refine xg_X5_28 dX5_mostQuills_65 ?_
        refine v_eq a2 ?_
        refine x_st 9 (L := 13) hB.cy (by decide) (by decide) rfl a1 (by omega) (by decide) dX5_mostQuills_68 ?_
        refine v_iconst_v (v := 1) dX5_mostQuills_69 (by decide) ?_
        refine v_aload_n dX5_mostQuills_70 rfl ?_
        refine xg_X5_24 dX5_mostQuills_71 ?_
        refine v_ishl dX5_mostQuills_74 ?_
        refine v_eq (show (1 : Int32) <<< (js1 2 &&& 31) = nI (2 ^ K) by rw [a1]; exact shl_1 K (by omega)) ?_
        refine v_iconst_v (v := 1) dX5_mostQuills_75 (by decide) ?_
        refine v_isub dX5_mostQuills_76 ?_
        refine v_eq (show nI (2 ^ K) - 1 = nI (2 ^ K - 1) from pk_sub (b := 1) (Nat.two_pow_pos K)) ?_
        refine v_istore_n3 dX5_mostQuills_77 (by decide) ?_
        refine v_iconst_v (v := 0) dX5_mostQuills_78 (by decide) ?_
        refine v_istore4 dX5_mostQuills_79 (by decide) ?_
        have hfK : f = K := by omega
        subst hfK
        refine v_w (congrArg (fun z => xW cy ad sc ar z js1 mo cp cn al q3 pa pn) (up_self (putA tau1 9 f (nI c)) 10).symm) ?_
        refine K81 js1 (putA tau1 9 f (nI c)) F g ⟨⟨a1, jK⟩, ⟨a3, a4, a4b⟩, ?_, ?_, ?_⟩ (2 ^ f + 1) 0 _ (by omega) (Nat.zero_le _) (fun x hx => absurd hx (Nat.not_lt_zero _))
        · intro q q1 q2
          have h0 : 0 < q := by
            rcases Nat.eq_zero_or_pos q with e | e
            · have := (of_decide_eq_true q2).1
              rw [e, show cnB 0 f = 0 from ct_0 f] at this; omega
            · exact e
          obtain ⟨b, hb, hb1, hb2⟩ := low_ex q1 h0
          exact ((a9 b hb).2.2 q q1 q2 (two_agr hb1 hb2)).2
        · intro b hb
          by_cases e : b = f
          · subst e; rw [putA_s, a7]; exact ⟨rfl, by omega⟩
          · rw [putA_m _ _ _ e]; exact ⟨a6 b (by omega), by have := a8 b (by omega); omega⟩
        · intro b hb
          obtain ⟨d1, d2, d3⟩ := a9 b hb
          rw [putA_n _ _ _ (by decide)]
          exact ⟨d1, d2, fun q q1 q2 q3 => (d3 q q1 q2 q3).1⟩
      · rw [a1, nI_leI (by omega) (by omega)] at h17
        obtain ⟨jl, jl2⟩ := jp f (by omega)
        have hsn : sN (nd 3) (K - f) = sN (nd 3) (K - (f + 1)) + nd 3 (K - (f + 1)) := by rw [show K - f = (K - (f + 1)) + 1 by omega]; rfl
        refine v_aload_n dX5_mostQuills_20 rfl ?_
        refine xg_X5_18 dX5_mostQuills_21 ?_
        refine v_iload_n dX5_mostQuills_24 rfl ?_
        refine v_aload_n dX5_mostQuills_25 rfl ?_
        refine xg_X5_28 dX5_mostQuills_26 ?_
        refine v_eq a2 ?_
        refine x_st 9 (L := 13) hB.cy (by decide) (by decide) rfl rfl (by omega) (by decide) dX5_mostQuills_29 ?_
        refine v_aload_n dX5_mostQuills_30 rfl ?_
        refine v_iconst_v (v := 1) dX5_mostQuills_31 (by decide) ?_
        refine v_iload_n dX5_mostQuills_32 rfl ?_
        refine v_ishl dX5_mostQuills_33 ?_
        refine v_eq (shl_1 f (by omega)) ?_
        refine v_iconst_v (v := 1) dX5_mostQuills_34 (by decide) ?_
        refine v_iload_n dX5_mostQuills_35 rfl ?_
        refine v_iconst_v (v := 1) dX5_mostQuills_36 (by decide) ?_
        refine v_iadd dX5_mostQuills_37 ?_
        refine v_eq (nI_add f 1) ?_
        refine v_iload_n dX5_mostQuills_38 rfl ?_
        refine v_aload_n dX5_mostQuills_39 rfl ?_
        refine xg_X5_9 dX5_mostQuills_40 ?_
        refine v_iload_n dX5_mostQuills_43 rfl ?_
        refine x_ld 7 (L := 12) hB.cy (by decide) (by decide) rfl rfl (by omega) (by decide) dX5_mostQuills_44 ?_
        refine v_isub dX5_mostQuills_45 ?_
        refine v_eq (show nI sp - putA tau1 9 f (nI c) 7 f = nI (sp + lp * (1 - 1)) - nI (smB ln (2 ^ f) K) by rw [putA_n _ _ _ (by decide), a5, jl, sm_two, if_pos (show f < K by omega), show sp + lp * (1 - 1) = sp by rw [Nat.sub_self, Nat.mul_zero, Nat.add_zero]]) ?_
        refine v_iload_n dX5_mostQuills_46 rfl ?_
        refine v_cVg5 hB k_X5_34 (pX5_collect hsp hlp 3 1 (f + 1) (2 ^ f) c F js1 (putA tau1 9 f (nI c)) (by omega) (by omega) ⟨⟨a1, jK⟩, fun p2 hp2 => by rw [putA_n _ _ _ (by decide), a5]; exact jp p2 hp2⟩ (Nat.pow_lt_pow_right (by decide) (by omega)) (by omega) (by rw [cn_two, if_pos (show f < K by omega)]) (by omega) a4 a4b a2 a3) ⟨by omega, by omega⟩ ⟨by decide, by decide⟩ rfl rfl (Nat.le_of_ble_eq_true rfl) dX5_mostQuills_47 ?_
        rintro rr ad2 w2 ⟨rfl, rfl, js2, tau2, c2, F2, rfl, hKV2, hc2⟩
        show V X RX5 cX5_mostQuills 5 (some .int) 0 0 ad2 _ 50 _ []
        refine v_iinc3 (v := 1) dX5_mostQuills_50 (by decide) (by decide) ?_
        rw [nI_1 f]
        refine v_goto (tgt := 12) dX5_mostQuills_53 (by decide) ?_
        exact ih (f + 1) c2 F2 _ js2 tau2 (by omega) (by omega) (hGJ.step hKV2) (by omega)
  refine v_aload_n dX5_mostQuills_0 rfl ?_
  refine v_iconst_v (v := 0) dX5_mostQuills_1 (by decide) ?_
  refine xp_X5_28 dX5_mostQuills_2 ?_
  refine v_aload_n dX5_mostQuills_5 rfl ?_
  refine v_iconst_v (v := 4) dX5_mostQuills_6 (by decide) ?_
  refine xp_X5_31 dX5_mostQuills_7 ?_
  refine v_iconst_v (v := 0) dX5_mostQuills_10 (by decide) ?_
  refine v_istore_n3 dX5_mostQuills_11 (by decide) ?_
  refine loop (K + 1) 0 0 4 (fun _ => 0) _ tau (by omega) (Nat.zero_le _) ⟨⟨?_, ?_, pk_us, by decide, by decide⟩, rfl, fun a ha => absurd ha (Nat.not_lt_zero _), rfl, fun a _ => Nat.le_refl _, fun a ha => absurd ha (Nat.not_lt_zero _)⟩ (by have := sN_793 K (by omega); rw [Nat.sub_zero]; omega)
  · rw [pk_un (by decide), pk_un (by decide)]; exact j2
  · rw [pk_un (by decide)]; exact pk_us

set_option maxHeartbeats 4000000 in
set_option maxRecDepth 100000 in
theorem pX9_most {l : Launch} {D : va_G} {cy : Nat → ClassId} {s0 : State} {ad : zA} {sc : Nat → Int32} {ar tau : Nat → Nat → Int32} {js mo : Nat → Int32} {cp cn al : Nat → Nat} {q3 pa : Nat → Nat → Int32} {pn : Nat → Nat} {N : Nat → Nat} {f : Int32} (hI : MI N sc ar) (hJ : XI N ar cp cn al q3 pa pn) : zM l D cy s0 yX9_most cX9_most 4 (some .int) 42 0 0 [.ref (ad 0 0), .int f] ad (xW cy ad sc ar tau js mo cp cn al q3 pa pn) (xP cy ad mo cp cn al q3 pa pn (s_most f sc ar)) := by
  refine zM_of (own := RX9) rfl (by decide) (by simp [Value.category]) (Nat.le_of_ble_eq_true rfl) ?_
  intro X hB
  show V X RX9 cX9_most 4 (some .int) 0 0 ad (xW cy ad sc ar tau js mo cp cn al q3 pa pn) 0 [some (.ref (ad 0 0)), some (.int f), none, none] []
  obtain ⟨⟨hN, b2, b3, b4, b5, b6, b7, b8, b9, b10⟩, hS, hQ, hBl, hCh, hZ⟩ := id hI
  obtain ⟨⟨c0, c1, c2, c3, c4, c5⟩, hx, hq3⟩ := id hJ
  have x0 := hx 0 (by decide)
  have x1 := hx 1 (by decide)
  have x2 := hx 2 (by decide)
  have x3 := hx 3 (by decide)
  have x4 := hx 4 (by decide)
  have x5 := hx 5 (by decide)
  refine v_aload_n dX9_most_0 rfl ?_
  refine v_iload_n dX9_most_1 rfl ?_
  refine v_cVi1 hB k_X9_93 pX9_isFamily (by decide) ⟨by decide, by decide⟩ rfl rfl (Nat.le_of_ble_eq_true rfl) dX9_most_2 ?_
  refine v_if_ne (tgt := 14) dX9_most_5 (by decide) (fun h5 => ?_) (fun h5 => ?_)
  · rw [bI_ne] at h5
    have hr : 0 ≤ f ∧ f < sc 2 := by rw [hN 2 (by decide) (by decide), ← c0]; exact h5
    have loop : ∀ (m i : Nat) (js1 : Nat → Int32) (tau1 : Nat → Nat → Int32) (z3 : Option Value), N 4 < i + m → i ≤ N 4 → js1 2 = nI (fl (mayB sc ar f) i).length → (fl (mayB sc ar f) i).length ≤ 12 → (∀ q, q < (fl (mayB sc ar f) i).length → tau1 7 q = ar 20 ((fl (mayB sc ar f) i).getD q 0)) → V X RX9 cX9_most 4 (some .int) 0 0 ad (xW cy ad sc ar tau1 js1 mo cp cn al q3 pa pn) 23 [some (.ref (ad 0 0)), some (.int f), some (.int (nI i)), z3] [] := by
      intro m
      induction m with
      | zero => intro i js1 tau1 z3 h1 h2; omega
      | succ m ih =>
        intro i js1 tau1 z3 h1 h2 h0 h12 h7
        have hstep : fl (mayB sc ar f) (i + 1) = (if mayB sc ar f i = true ∧ (fl (mayB sc ar f) i).length < 30 then fl (mayB sc ar f) i ++ [i] else fl (mayB sc ar f) i) := rfl
        refine v_iload_n dX9_most_23 rfl ?_
        refine v_aload_n dX9_most_24 rfl ?_
        refine xg_X9_19 dX9_most_25 ?_
        refine v_cVi0 hB k_X9_77 (pJx4a65c_size_8abf5 (by omega)) (by decide) ⟨by decide, by decide⟩ rfl rfl (Nat.le_of_ble_eq_true rfl) dX9_most_28 ?_
        refine v_icmp_ge (tgt := 82) dX9_most_31 (by decide) (fun h31 => ?_) (fun h31 => ?_)
        · rw [nI_leI (by omega) (by omega)] at h31
          refine v_aload_n dX9_most_82 rfl ?_
          refine v_aload_n dX9_most_83 rfl ?_
          refine xg_X9_48 dX9_most_84 ?_
          refine v_aload_n dX9_most_87 rfl ?_
          refine xg_X9_56 dX9_most_88 ?_
          refine v_eq (hN 9 (by decide) (by decide)) ?_
          refine v_aload_n dX9_most_91 rfl ?_
          refine xg_X9_60 dX9_most_92 ?_
          refine v_eq (hN 10 (by decide) (by decide)) ?_
          have ec : cands sc ar f = fl (mayB sc ar f) (N 4) := by unfold cands; rw [hN 4 (by decide) (by decide), cl_nI (by omega)]
          have hiN : i = N 4 := by omega
          subst hiN
          refine v_cVg2 hB k_X9_188 (pX5_mostQuills (ln := fun q => cl (ar 20 (cMp sc ar f q))) (K := (cands sc ar f).length) (sp := N 9) (lp := N 10) (by omega) (by omega) ⟨⟨by rw [ec]; exact h0, by rw [ec]; omega⟩, fun p hp => ?_⟩) ⟨by decide, by decide⟩ ⟨by decide, by decide⟩ rfl rfl (Nat.le_of_ble_eq_true rfl) dX9_most_95 ?_
          · have hp2 : p < (fl (mayB sc ar f) (N 4)).length := by rw [← ec]; exact hp
            have em : cMp sc ar f p = (fl (mayB sc ar f) (N 4)).getD p 0 := by unfold cMp; rw [ec]
            have hm := (fl_mem _ _ _ (getD_mem hp2)).1
            rw [← em] at hm
            obtain ⟨-, -, ⟨L, l1, l2, l3⟩, -⟩ := hS _ hm
            refine ⟨?_, ?_⟩
            · rw [h7 p hp2, ← em]; show ar 20 (cMp sc ar f p) = nI (cl (ar 20 (cMp sc ar f p)))
              rw [l3, cl_nI (by omega)]
            · show cl (ar 20 (cMp sc ar f p)) ≤ 60
              rw [l3, cl_nI (by omega)]; exact l2
          rintro rr ad2 w2 ⟨rfl, rfl, js2, tau2, rfl⟩
          show V X RX9 cX9_most 4 (some .int) 0 0 ad2 _ 98 _ [_, _]
          refine v_cVi1 hB k_X9_90 pX9_accept (by decide) ⟨by decide, by decide⟩ rfl rfl (Nat.le_of_ble_eq_true rfl) dX9_most_98 ?_
          refine v_iret hB (by decide) (by decide) dX9_most_101 ?_
          have hSm : s_most f sc ar = (nI (mstV sc ar f), upd sc 1 0, ar) := by unfold s_most; rw [if_pos hr, if_neg (by rw [ec]; omega)]
          rw [hSm]
          refine ⟨?_, rfl, js2, tau2, rfl⟩
          unfold mstV
          rw [hN 9 (by decide) (by decide), hN 10 (by decide) (by decide), cl_nI (by omega), cl_nI (by omega)]
        · rw [nI_leI (by omega) (by omega)] at h31
          refine v_aload_n dX9_most_34 rfl ?_
          refine xg_X9_19 dX9_most_35 ?_
          refine v_iload_n dX9_most_38 rfl ?_
          refine v_cVr1 hB k_X9_113 (pJx4a65c_get_915e3 (by omega) (by omega) (by omega) (by omega)) (by decide) ⟨by decide, by decide⟩ rfl rfl (Nat.le_of_ble_eq_true rfl) dX9_most_39 ?_
          refine v_cast (ci := 8) rfl cl_X9_120 (xW_X7 (by omega)) dX9_most_42 ?_
          refine v_astore_n3 dX9_most_45 (by decide) ?_
          refine v_aload_n dX9_most_46 rfl ?_
          refine v_aload_n dX9_most_47 rfl ?_
          refine v_iload_n dX9_most_48 rfl ?_
          refine v_cVi2 hB k_X9_159 (pX9_mayBeJoined hI hJ (by omega)) (by decide) ⟨by decide, by decide⟩ rfl rfl (Nat.le_of_ble_eq_true rfl) dX9_most_49 ?_
          refine v_if_eq (tgt := 76) dX9_most_52 (by decide) (fun h52 => ?_) (fun h52 => ?_)
          · rw [bI_eq] at h52
            rw [if_neg (fun z => h52 z.1)] at hstep
            refine v_iinc2 (v := 1) dX9_most_76 (by decide) (by decide) ?_
            refine v_goto (tgt := 23) dX9_most_79 (by decide) ?_
            rw [nI_1 i]
            exact ih (i + 1) js1 tau1 _ (by omega) (by omega) (by rw [hstep]; exact h0) (by rw [hstep]; exact h12) (by rw [hstep]; exact h7)
            -- DONE
          · rw [bI_ne] at h52
            rw [if_pos ⟨h52, by omega⟩] at hstep
            refine v_aload_n dX9_most_55 rfl ?_
            refine xg_X9_48 dX9_most_56 ?_
            refine v_aload_n dX9_most_59 rfl ?_
            refine xg_X9_140 (by omega) dX9_most_60 ?_
            by_cases h13 : (fl (mayB sc ar f) i).length = 12
            · refine v_cVi1 hB k_X9_185 (pX5_takes0 (by rw [h0, h13])) ⟨by decide, by decide⟩ ⟨by decide, by decide⟩ rfl rfl (Nat.le_of_ble_eq_true rfl) dX9_most_63 ?_
              refine v_if_ne (tgt := 76) dX9_most_66 (by decide) (fun z => absurd rfl z) (fun _ => ?_)
              refine v_aload_n dX9_most_69 rfl ?_
              refine v_bipush_v (v := 6) dX9_most_70 (by decide) ?_
              refine v_cVi1 hB k_X9_73 pX9_refuse (by decide) ⟨by decide, by decide⟩ rfl rfl (Nat.le_of_ble_eq_true rfl) dX9_most_72 ?_
              refine v_iret hB (by decide) (by decide) dX9_most_75 ?_
              have hlen : 12 < (cands sc ar f).length := by
                unfold cands
                rw [hN 4 (by decide) (by decide), cl_nI (by omega)]
                have := fl_mono (mayB sc ar f) (show i + 1 ≤ N 4 by omega)
                rw [hstep, List.length_append, h13] at this
                exact this
              have hS : s_most f sc ar = (-1, upd sc 1 6, ar) := by unfold s_most; rw [if_pos hr, if_pos hlen]
              rw [hS]
              exact ⟨rfl, rfl, js1, tau1, rfl⟩
            refine v_cVi1 hB k_X9_185 (pX5_takes1 h0 (by omega)) ⟨by decide, by decide⟩ ⟨by decide, by decide⟩ rfl rfl (Nat.le_of_ble_eq_true rfl) dX9_most_63 ?_
            refine v_if_ne (tgt := 76) dX9_most_66 (by decide) (fun _ => ?_) (fun z => absurd z (by decide))
            refine v_iinc2 (v := 1) dX9_most_76 (by decide) (by decide) ?_
            rw [nI_1 i]
            refine v_goto (tgt := 23) dX9_most_79 (by decide) ?_
            refine ih (i + 1) _ _ _ (by omega) (by omega) ?_ ?_ ?_
            · rw [hstep, List.length_append]; rfl
            · rw [hstep, List.length_append, List.length_singleton]; omega
            · intro q hq
              rw [hstep] at hq ⊢
              rw [List.length_append, List.length_singleton] at hq
              by_cases e : q = (fl (mayB sc ar f) i).length
              · subst e; rw [getD_end _ rfl, putA_s]
              · rw [getD_app _ rfl (by omega), putA_m _ _ _ e]; exact h7 q (by omega)
    refine v_aload_n dX9_most_14 rfl ?_
    refine xg_X9_48 dX9_most_15 ?_
    refine v_cVv0 hB k_X9_182 pX5_clear (by decide) ⟨by decide, by decide⟩ rfl rfl (Nat.le_of_ble_eq_true rfl) dX9_most_18 ?_
    refine v_iconst_v (v := 0) dX9_most_21 (by decide) ?_
    refine v_istore_n2 dX9_most_22 (by decide) ?_
    exact loop (N 4 + 1) 0 _ tau none (by omega) (by omega) rfl (Nat.zero_le _) (fun q hq => absurd hq (Nat.not_lt_zero _))
  · rw [bI_eq] at h5
    have hS0 : s_most f sc ar = (-1, upd sc 1 1, ar) := if_neg (fun z => h5 (by rw [c0, ← hN 2 (by decide) (by decide)]; exact z))
    rw [hS0] at hB
    refine v_aload_n dX9_most_8 rfl ?_
    refine v_iconst_v (v := 1) dX9_most_9 (by decide) ?_
    refine v_cVi1 hB k_X9_73 pX9_refuse (by decide) ⟨by decide, by decide⟩ rfl rfl (Nat.le_of_ble_eq_true rfl) dX9_most_10 ?_
    exact v_iret hB (by decide) (by decide) dX9_most_13 ⟨rfl, rfl, js, tau, rfl⟩

