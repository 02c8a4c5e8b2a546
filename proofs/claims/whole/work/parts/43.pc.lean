def PI (ln : Nat → Nat) (K : Nat) (js : Nat → Int32) (tau : Nat → Nat → Int32) : Prop := (js 2 = nI K ∧ K ≤ 12) ∧ ∀ p, p < K → tau 7 p = nI (ln p) ∧ ln p ≤ 60
def sN (f : Nat → Nat) : Nat → Nat
  | 0 => 0
  | n + 1 => sN f n + f n
/-- how many sets a search of r more parts out of m strips meets -/
def nd : Nat → Nat → Nat
  | 0, _ => 1
  | r + 1, m => 1 + sN (nd r) m
theorem nd_pos (r m : Nat) : 1 ≤ nd r m := by cases r <;> simp [nd] <;> omega
def agr (q s fr : Nat) : Prop := ∀ i, i < fr → q.testBit i = s.testBit i
/-- what a search has gathered, as far as next part i -/
def KV (Q : Nat → Bool) (K s fr c F : Nat) (js : Nat → Int32) (tau : Nat → Nat → Int32) (i c1 F1 : Nat) (js1 : Nat → Int32) (tau1 : Nat → Nat → Int32) : Prop :=
  (js1 3 = nI c1 ∧ js1 4 = nI F1) ∧ ((∀ j, j ≠ 3 → j ≠ 4 → js1 j = js j) ∧ (∀ j, j ≠ 8 → tau1 j = tau j) ∧ ∀ j, j < c → tau1 8 j = tau 8 j) ∧ c ≤ c1 ∧ (1 ≤ F1 ∧ F1 ≤ F) ∧
  (∀ j, c ≤ j → j < c1 → ∃ q, tau1 8 j = nI q ∧ q < 2 ^ K ∧ Q q = true ∧ agr q s fr) ∧
  ∀ q, q < 2 ^ K → Q q = true → agr q s fr → (q = s ∨ ∃ j, fr ≤ j ∧ j < i ∧ q.testBit j = true) → (∃ j, c ≤ j ∧ j < c1 ∧ tau1 8 j = nI q) ∧ F1 ≤ cnB q K
theorem agr_cases {q s fr K : Nat} (hq : q < 2 ^ K) (hs : s < 2 ^ fr) (h : agr q s fr) : q = s ∨ ∃ j, fr ≤ j ∧ j < K ∧ q.testBit j = true := by
  by_cases e : ∃ j, fr ≤ j ∧ j < K ∧ q.testBit j = true
  · exact Or.inr e
  · left
    apply Nat.eq_of_testBit_eq; intro i
    by_cases z : i < fr
    · exact h i z
    · rw [tb_hi hs (by omega)]
      cases hb : q.testBit i with
      | false => rfl
      | true =>
        by_cases z2 : i < K
        · exact absurd ⟨i, by omega, z2, hb⟩ e
        · rw [tb_hi hq (by omega)] at hb; cases hb
theorem min_I {a b : Nat} (ha : a < 2 ^ 31) (hb : b < 2 ^ 31) : (if nI b < nI a then nI b else nI a) = nI (min a b) := by
  by_cases h : b < a
  · rw [if_pos (nI_lt h ha), Nat.min_eq_right (by omega)]
  · rw [if_neg (nI_nlt (by omega) hb), Nat.min_eq_left (by omega)]
theorem i_mis (a b c d : Int32) : a - b + c - d = (a + c) - (b + d) := by grind
theorem agr_child {q s fr i : Nat} (hs : s < 2 ^ fr) (hi : fr ≤ i) (h : agr q s fr) (hb : q.testBit i = true) (hno : ∀ j, fr ≤ j → j < i → q.testBit j = false) : agr q (s ||| 2 ^ i) (i + 1) := fun j hj => by
  rw [Nat.testBit_or, tb_two]
  by_cases e : i = j
  · subst e; rw [hb]; simp
  · rw [decide_eq_false e, Bool.or_false]
    by_cases z : j < fr
    · exact h j z
    · rw [hno j (by omega) (by omega), tb_hi hs (by omega)]
theorem agr_back {q s fr i : Nat} (hi : fr ≤ i) (h : agr q (s ||| 2 ^ i) (i + 1)) : agr q s fr ∧ q.testBit i = true := by
  refine ⟨fun j hj => ?_, ?_⟩
  · rw [h j (by omega), Nat.testBit_or, tb_two, decide_eq_false (show ¬ i = j by omega), Bool.or_false]
  · rw [h i (by omega), Nat.testBit_or, tb_two]; simp
/-- one more part, with all that lies behind it -/
theorem KV.step {Q : Nat → Bool} {K s fr c F : Nat} {js : Nat → Int32} {tau : Nat → Nat → Int32} {i c1 F1 : Nat} {js1 : Nat → Int32} {tau1 : Nat → Nat → Int32} {c2 F2 : Nat} {js2 : Nat → Int32} {tau2 : Nat → Nat → Int32}
    (hs : s < 2 ^ fr) (hi : fr ≤ i) (h : KV Q K s fr c F js tau i c1 F1 js1 tau1) (h2 : KV Q K (s ||| 2 ^ i) (i + 1) c1 F1 js1 tau1 K c2 F2 js2 tau2) : KV Q K s fr c F js tau (i + 1) c2 F2 js2 tau2 := by
  obtain ⟨a1, ⟨a2, a3, a4⟩, a5, a6, a7, a8⟩ := h
  obtain ⟨b1, ⟨b2, b3, b4⟩, b5, b6, b7, b8⟩ := h2
  refine ⟨b1, ⟨fun j p q => (b2 j p q).trans (a2 j p q), fun j p => (b3 j p).trans (a3 j p), fun j p => (b4 j (by omega)).trans (a4 j p)⟩, by omega, ⟨b6.1, by omega⟩, ?_, ?_⟩
  · intro j p1 p2
    by_cases e : j < c1
    · rw [b4 j e]; exact a7 j p1 e
    · obtain ⟨q, q1, q2, q3, q4⟩ := b7 j (by omega) p2
      exact ⟨q, q1, q2, q3, (agr_back hi q4).1⟩
  · intro q q1 q2 q3 q4
    by_cases e : q = s ∨ ∃ j, fr ≤ j ∧ j < i ∧ q.testBit j = true
    · obtain ⟨⟨j, j1, j2, j3⟩, j4⟩ := a8 q q1 q2 q3 e
      exact ⟨⟨j, j1, by omega, by rw [b4 j j2]; exact j3⟩, by omega⟩
    · have hno : ∀ j, fr ≤ j → j < i → q.testBit j = false := fun j p1 p2 => by
        cases hb : q.testBit j with
        | false => rfl
        | true => exact absurd (Or.inr ⟨j, p1, p2, hb⟩) e
      have hb : q.testBit i = true := by
        rcases q4 with z | ⟨j, j1, j2, j3⟩
        · exact absurd (Or.inl z) e
        · by_cases e2 : j = i
          · rw [← e2]; exact j3
          · exact absurd (Or.inr ⟨j, j1, by omega, j3⟩) e
      have hag := agr_child hs hi q3 hb hno
      obtain ⟨⟨j, j1, j2, j3⟩, j4⟩ := b8 q q1 q2 hag (agr_cases q1 (or_two_lt hs hi) hag)
      exact ⟨⟨j, by omega, j2, j3⟩, j4⟩
def kP (cy : Nat → ClassId) (ad : zA) (sc : Nat → Int32) (ar tau : Nat → Nat → Int32) (js mo : Nat → Int32) (cp cn al : Nat → Nat) (q3 pa : Nat → Nat → Int32) (pn : Nat → Nat) (Q : Nat → Bool) (K s fr c F n : Nat) : Option Value → zA → zW → Prop := fun r ad2 w2 => r = none ∧ ad2 = ad ∧ ∃ js2 tau2 c2 F2, w2 = xW cy ad sc ar tau2 js2 mo cp cn al q3 pa pn ∧ KV Q K s fr c F js tau K c2 F2 js2 tau2 ∧ c2 ≤ c + n
theorem isQ4 {ln : Nat → Nat} {n sp lp s : Nat} (h : isQ ln n sp lp s = true) : cnB s n ≤ 4 := (of_decide_eq_true h).2.1
theorem ct_le (p q : Nat → Bool) (h : ∀ i, p i = true → q i = true) : ∀ n, ctN p n ≤ ctN q n
  | 0 => Nat.le_refl _
  | n + 1 => by
    rw [ctN, ctN]
    have := ct_le p q h n
    cases hp : p n with
    | false => simp; omega
    | true => rw [h n hp]; simp; omega
theorem ct_lt (p q : Nat → Bool) (h : ∀ i, p i = true → q i = true) {j : Nat} (h1 : p j = false) (h2 : q j = true) : ∀ n, j < n → ctN p n < ctN q n
  | 0, h => absurd h (Nat.not_lt_zero _)
  | n + 1, hj => by
    rw [ctN, ctN]
    by_cases e : j = n
    · subst e
      rw [h1, h2]
      have := ct_le p q h j
      simp; omega
    · have := ct_lt p q h h1 h2 n (by omega)
      cases hp : p n with
      | false => simp; omega
      | true => rw [h n hp]; simp; omega
theorem pop_eq {q s fr K : Nat} (hs : s < 2 ^ fr) (hq : q < 2 ^ K) (h : agr q s fr) (hc : cnB q K ≤ cnB s K) : q = s := by
  rcases agr_cases hq hs h with e | ⟨j, j1, j2, j3⟩
  · exact e
  · exfalso
    have hlt : cnB s K < cnB q K := ct_lt _ _ (fun i hi => by
      by_cases z : i < fr
      · show q.testBit i = true
        rw [h i z]; exact hi
      · have hi2 : s.testBit i = true := hi
        rw [tb_hi hs (by omega)] at hi2; cases hi2) (tb_hi hs j1) j3 K j2
    omega
set_option maxHeartbeats 4000000 in
set_option maxRecDepth 100000 in
theorem pX5_collect {l : Launch} {D : va_G} {cy : Nat → ClassId} {s0 : State} {ad : zA} {sc : Nat → Int32} {ar : Nat → Nat → Int32} {mo : Nat → Int32} {cp cn al : Nat → Nat} {q3 pa : Nat → Nat → Int32} {pn : Nat → Nat} {ln : Nat → Nat} {K sp lp : Nat} (hsp : sp ≤ 99) (hlp : lp ≤ 9) : ∀ (r p fr s c F : Nat) (js : Nat → Int32) (tau : Nat → Nat → Int32), p + r = 4 → 1 ≤ p → PI ln K js tau → s < 2 ^ fr → fr ≤ K → cnB s K = p → c + nd r (K - fr) ≤ 793 → 1 ≤ F → F ≤ 4 → js 3 = nI c → js 4 = nI F →
    zM l D cy s0 yX5_collect cX5_collect 7 none (r + 2) 0 0 [.ref (ad 3 0), .int (nI s), .int (nI p), .int (nI fr), .int (nI (sp + lp * (p - 1)) - nI (smB ln s K)), .int (nI lp)] ad (xW cy ad sc ar tau js mo cp cn al q3 pa pn) (kP cy ad sc ar tau js mo cp cn al q3 pa pn (isQ ln K sp lp) K s fr c F (nd r (K - fr))) := by
  intro r
  induction r using Nat.strongRecOn with
  | ind r ihr =>
    intro p fr s c F js tau hpr hp1 hPI hs hfr hcn hnd hF1 hF4 e3 e4
    refine zM_of (own := RX5) rfl (by decide) (by simp [Value.category]) (Nat.le_of_ble_eq_true rfl) ?_
    intro X hB
    show V X RX5 cX5_collect 7 none 0 0 ad (xW cy ad sc ar tau js mo cp cn al q3 pa pn) 0 [some (.ref (ad 3 0)), some (.int (nI s)), some (.int (nI p)), some (.int (nI fr)), some (.int (nI (sp + lp * (p - 1)) - nI (smB ln s K))), some (.int (nI lp)), none] []
    obtain ⟨⟨j2, jK⟩, jp⟩ := id hPI
    have hnp := nd_pos r (K - fr)
    have hmul : lp * (p - 1) ≤ 27 := Nat.le_trans (Nat.mul_le_mul hlp (show p - 1 ≤ 3 by omega)) (by decide)
    have hsm : ∀ n, n ≤ K → smB ln s n ≤ 60 * n := by
      intro n
      induction n with
      | zero => intro _; exact Nat.le_refl _
      | succ n ih =>
        intro hn
        have i1 := ih (by omega)
        have i2 := (jp n (by omega)).2
        rw [smB]
        split <;> omega
    have hsmK := hsm K (Nat.le_refl _)
    have loop : ∀ (m i c1 F1 : Nat) (js1 : Nat → Int32) (tau1 : Nat → Nat → Int32), K < i + m → fr ≤ i → i ≤ K → 1 ≤ r → KV (isQ ln K sp lp) K s fr c F js tau i c1 F1 js1 tau1 → c1 + sN (nd (r - 1)) (K - i) ≤ c + nd r (K - fr) → V X RX5 cX5_collect 7 none 0 0 ad (xW cy ad sc ar tau1 js1 mo cp cn al q3 pa pn) 55 [some (.ref (ad 3 0)), some (.int (nI s)), some (.int (nI p)), some (.int (nI fr)), some (.int (nI (sp + lp * (p - 1)) - nI (smB ln s K))), some (.int (nI lp)), some (.int (nI i))] [] := by
      intro m
      induction m with
      | zero => intro i c1 F1 js1 tau1 h1 h2 h3; omega
      | succ m ih =>
        intro i c1 F1 js1 tau1 h1 h2 h3 hr hKV hc1
        obtain ⟨a1, ⟨a2, a3, a4⟩, a5, a6, a7, a8⟩ := id hKV
        have e2 : js1 2 = nI K := by rw [a2 2 (by decide) (by decide)]; exact j2
        have e7 : tau1 7 = tau 7 := a3 7 (by decide)
        refine v_iload dX5_collect_55 rfl ?_
        refine v_aload_n dX5_collect_57 rfl ?_
        refine xg_X5_24 dX5_collect_58 ?_
        refine v_icmp_ge (tgt := 102) dX5_collect_61 (by decide) (fun h61 => ?_) (fun h61 => ?_)
        · rw [e2, nI_leI (by omega) (by omega)] at h61
          exact v_vret hB (by decide) (by decide) dX5_collect_102 ⟨rfl, rfl, js1, tau1, c1, F1, rfl, by rw [show i = K by omega] at hKV; exact hKV, by omega⟩
        · rw [e2, nI_leI (by omega) (by omega)] at h61
          obtain ⟨jl, jl2⟩ := jp i (by omega)
          have hsn : sN (nd (r - 1)) (K - i) = sN (nd (r - 1)) (K - (i + 1)) + nd (r - 1) (K - (i + 1)) := by rw [show K - i = (K - (i + 1)) + 1 by omega]; rfl
          have hob := or_two_bits hs h2
          refine v_aload_n dX5_collect_64 rfl ?_
          refine v_iload_n dX5_collect_65 rfl ?_
          refine v_iconst_v (v := 1) dX5_collect_66 (by decide) ?_
          refine v_iload dX5_collect_67 rfl ?_
          refine v_ishl dX5_collect_69 ?_
          refine v_eq (shl_1 i (by omega)) ?_
          refine v_ior dX5_collect_70 ?_
          refine v_eq (fa_or s (2 ^ i)) ?_
          refine v_iload_n dX5_collect_71 rfl ?_
          refine v_iconst_v (v := 1) dX5_collect_72 (by decide) ?_
          refine v_iadd dX5_collect_73 ?_
          refine v_eq (nI_add p 1) ?_
          refine v_iload dX5_collect_74 rfl ?_
          refine v_iconst_v (v := 1) dX5_collect_76 (by decide) ?_
          refine v_iadd dX5_collect_77 ?_
          refine v_eq (nI_add i 1) ?_
          refine v_iload dX5_collect_78 rfl ?_
          refine v_iload dX5_collect_80 rfl ?_
          refine v_iadd dX5_collect_82 ?_
          refine v_aload_n dX5_collect_83 rfl ?_
          refine xg_X5_9 dX5_collect_84 ?_
          refine v_iload dX5_collect_87 rfl ?_
          refine x_ld 7 (L := 12) hB.cy (by decide) (by decide) rfl rfl (by omega) (by decide) dX5_collect_89 ?_
          refine v_isub dX5_collect_90 ?_
          refine v_eq (show nI (sp + lp * (p - 1)) - nI (smB ln s K) + nI lp - tau1 7 i = nI (sp + lp * (p + 1 - 1)) - nI (smB ln (s ||| 2 ^ i) K) by rw [e7, jl, i_mis, nI_add, nI_add, sm_add ln hob K, sm_two, if_pos (show i < K by omega), show sp + lp * (p - 1) + lp = sp + lp * (p + 1 - 1) by rw [Nat.add_assoc, ← Nat.mul_succ, show (p - 1).succ = p + 1 - 1 by omega]]) ?_
          refine v_iload dX5_collect_91 rfl ?_
          obtain ⟨r, rfl⟩ : ∃ r2, r = r2 + 1 := ⟨r - 1, by omega⟩
          rw [Nat.add_sub_cancel] at hc1 hsn
          refine v_cVg5 hB k_X5_34 (ihr r (by omega) (p + 1) (i + 1) (s ||| 2 ^ i) c1 F1 js1 tau1 (by omega) (by omega) ⟨⟨e2, jK⟩, fun p2 hp2 => by rw [e7]; exact jp p2 hp2⟩ (or_two_lt hs h2) (by omega) ?_ (by omega) a6.1 (by omega) a1.1 a1.2) ⟨by omega, by omega⟩ ⟨by decide, by decide⟩ rfl rfl (Nat.le_of_ble_eq_true rfl) dX5_collect_93 ?_
          · rw [show cnB (s ||| 2 ^ i) K = cnB s K + cnB (2 ^ i) K from ct_add _ _ _ hob K, cn_two, if_pos (show i < K by omega), hcn]
          rintro rr ad2 w2 ⟨rfl, rfl, js2, tau2, c2, F2, rfl, hKV2, hc2⟩
          show V X RX5 cX5_collect 7 none 0 0 ad2 _ 96 _ []
          refine v_iinc6 (v := 1) dX5_collect_96 (by decide) (by decide) ?_
          rw [nI_1 i]
          refine v_goto (tgt := 55) dX5_collect_99 (by decide) ?_
          exact ih (i + 1) c2 F2 js2 tau2 (by omega) (by omega) (by omega) (by omega) (hKV.step hs h2 hKV2) (by rw [Nat.add_sub_cancel]; omega)
    have K47 : ∀ (c1 F1 : Nat) (js1 : Nat → Int32) (tau1 : Nat → Nat → Int32), KV (isQ ln K sp lp) K s fr c F js tau fr c1 F1 js1 tau1 → c1 ≤ c + 1 → V X RX5 cX5_collect 7 none 0 0 ad (xW cy ad sc ar tau1 js1 mo cp cn al q3 pa pn) 47 [some (.ref (ad 3 0)), some (.int (nI s)), some (.int (nI p)), some (.int (nI fr)), some (.int (nI (sp + lp * (p - 1)) - nI (smB ln s K))), some (.int (nI lp)), none] [] := by
      intro c1 F1 js1 tau1 hKV hc1
      refine v_iload_n dX5_collect_47 rfl ?_
      refine v_iconst_v (v := 4) dX5_collect_48 (by decide) ?_
      refine v_icmp_ge (tgt := 102) dX5_collect_49 (by decide) (fun h49 => ?_) (fun h49 => ?_)
      · have h49 : 4 ≤ p := (nI_leI (a := 4) (by decide) (by omega)).mp h49
        refine v_vret hB (by decide) (by decide) dX5_collect_102 ⟨rfl, rfl, js1, tau1, c1, F1, rfl, ?_, by have := nd_pos r (K - fr); omega⟩
        obtain ⟨a1, a2, a5, a6, a7, a8⟩ := hKV
        refine ⟨a1, a2, a5, a6, a7, fun q q1 q2 q3 q4 => a8 q q1 q2 q3 ?_⟩
        rcases q4 with z | ⟨j, j1, j2, j3⟩
        · exact Or.inl z
        · exfalso
          have hqs : q = s := by
            refine pop_eq hs q1 q3 ?_
            rw [hcn]; have := isQ4 q2; omega
          rw [hqs, tb_hi hs j1] at j3; cases j3
      · have h49 : ¬ 4 ≤ p := fun z => h49 ((nI_leI (a := 4) (by decide) (by omega)).mpr z)
        refine v_iload_n dX5_collect_52 rfl ?_
        refine v_istore6 dX5_collect_53 (by decide) ?_
        refine loop (K + 1) fr c1 F1 js1 tau1 (by omega) (by omega) (by omega) (by omega) hKV ?_
        obtain ⟨r, rfl⟩ : ∃ r2, r = r2 + 1 := ⟨r - 1, by omega⟩
        rw [Nat.add_sub_cancel]
        show c1 + sN (nd r) (K - fr) ≤ c + (1 + sN (nd r) (K - fr))
        omega
    refine v_iload dX5_collect_0 rfl ?_
    refine v_if_ne (tgt := 47) dX5_collect_2 (by decide) (fun h2 => ?_) (fun h2 => ?_)
    · have h2 : ¬ isQ ln K sp lp s = true := fun z => h2 (by
        have z2 := (of_decide_eq_true z).2.2
        rw [hcn] at z2
        exact (n_sub_eq (c := 0) (by omega) (by omega) (by omega)).mpr (by omega))
      first
        | exact absurd h2 (by assumption)
        | skip
      by_cases hq : isQ ln K sp lp s = true
      · first
          | exact absurd hq h2
          | (refine K47 (c + 1) (min F p) _ _ ⟨⟨?_, pk_us⟩, ⟨fun j q1 q2 => ?_, fun j q1 => putA_n _ _ _ q1, fun j q1 => putA_m _ _ _ (by omega)⟩, by omega, ⟨by omega, by omega⟩, ?_, ?_⟩ (by omega)
             · rw [pk_un (by decide)]; exact pk_us
             · rw [pk_un q2, pk_un q1]
             · intro j q1 q2
               have : j = c := by omega
               subst this
               exact ⟨s, putA_s _ _ _ _, Nat.lt_of_lt_of_le hs (Nat.pow_le_pow_right (by decide) hfr), hq, fun i _ => rfl⟩
             · intro q q1 q2 q3 q4
               have hqs : q = s := by
                 rcases q4 with z | ⟨j, j1, j2, j3⟩
                 · exact z
                 · omega
               subst hqs
               exact ⟨⟨c, by omega, by omega, putA_s _ _ _ _⟩, by rw [hcn]; omega⟩)
      · first
          | exact absurd h2 hq
          | (refine K47 c F js tau ⟨⟨e3, e4⟩, ⟨fun _ _ _ => rfl, fun _ _ => rfl, fun _ _ => rfl⟩, by omega, ⟨by omega, by omega⟩, fun j q1 q2 => by omega, ?_⟩ (by omega)
             intro q q1 q2 q3 q4
             exfalso
             rcases q4 with z | ⟨j, j1, j2, j3⟩
             · exact hq (z ▸ q2)
             · omega)
    · have h2 : isQ ln K sp lp s = true := by
        have z2 := (n_sub_eq (c := 0) (by omega) (by omega) (by omega)).mp h2
        exact decide_eq_true ⟨by omega, by omega, by rw [hcn]; omega⟩
      refine v_aload_n dX5_collect_5 rfl ?_
      refine xg_X5_28 dX5_collect_6 ?_
      refine v_sipush_v (v := 793) dX5_collect_9 (by decide) ?_
      refine v_icmp_ge (tgt := 47) dX5_collect_12 (by decide) (fun h12 => ?_) (fun h12 => ?_)
      · exact absurd h12 (by rw [e3]; exact nI_ge (b := 793) (by omega) (by decide))
      · refine v_aload_n dX5_collect_15 rfl ?_
        refine xg_X5_15 dX5_collect_16 ?_
        refine v_aload_n dX5_collect_19 rfl ?_
        refine xg_X5_28 dX5_collect_20 ?_
        refine v_iload_n dX5_collect_23 rfl ?_
        refine x_st 8 (L := 793) hB.cy (by decide) (by decide) rfl e3 (by omega) (by decide) dX5_collect_24 ?_
        refine v_aload_n dX5_collect_25 rfl ?_
        refine v_dup dX5_collect_26 rfl ?_
        refine xg_X5_28 dX5_collect_27 ?_
        refine v_iconst_v (v := 1) dX5_collect_30 (by decide) ?_
        refine v_iadd dX5_collect_31 ?_
        refine v_eq (show js 3 + 1 = nI (c + 1) by rw [e3]; exact nI_add c 1) ?_
        refine xp_X5_28 dX5_collect_32 ?_
        refine v_aload_n dX5_collect_35 rfl ?_
        refine v_aload_n dX5_collect_36 rfl ?_
        refine xg_X5_31 dX5_collect_37 ?_
        refine v_iload_n dX5_collect_40 rfl ?_
        skip -- (show upd js 3 (nI (c + 1)) 4 = nI F by rw [pk_un (by decide)]; exact e4) ?_
        refine v_min hB min_X5_42 min_s math_i min_c (by omega) ⟨by decide, by decide⟩ (Nat.le_of_ble_eq_true rfl) dX5_collect_41 ?_
        refine v_eq (show (if nI p < upd js 3 (nI (c + 1)) 4 then nI p else upd js 3 (nI (c + 1)) 4) = nI (min F p) by rw [pk_un (by decide), e4]; exact min_I (by omega) (by omega)) ?_
        refine xp_X5_31 dX5_collect_44 ?_
        first
          | exact absurd h2 (by assumption)
          | skip
        by_cases hq : isQ ln K sp lp s = true
        · first
            | exact absurd hq h2
            | (refine K47 (c + 1) (min F p) _ _ ⟨⟨?_, pk_us⟩, ⟨fun j q1 q2 => ?_, fun j q1 => putA_n _ _ _ q1, fun j q1 => putA_m _ _ _ (by omega)⟩, by omega, ⟨by omega, by omega⟩, ?_, ?_⟩ (by omega)
               · rw [pk_un (by decide)]; exact pk_us
               · rw [pk_un q2, pk_un q1]
               · intro j q1 q2
                 have : j = c := by omega
                 subst this
                 exact ⟨s, putA_s _ _ _ _, Nat.lt_of_lt_of_le hs (Nat.pow_le_pow_right (by decide) hfr), hq, fun i _ => rfl⟩
               · intro q q1 q2 q3 q4
                 have hqs : q = s := by
                   rcases q4 with z | ⟨j, j1, j2, j3⟩
                   · exact z
                   · omega
                 subst hqs
                 exact ⟨⟨c, by omega, by omega, putA_s _ _ _ _⟩, by rw [hcn]; omega⟩)
        · first
            | exact absurd h2 hq
            | (refine K47 c F js tau ⟨⟨e3, e4⟩, ⟨fun _ _ _ => rfl, fun _ _ => rfl, fun _ _ => rfl⟩, by omega, ⟨by omega, by omega⟩, fun j q1 q2 => by omega, ?_⟩ (by omega)
               intro q q1 q2 q3 q4
               exfalso
               rcases q4 with z | ⟨j, j1, j2, j3⟩
               · exact hq (z ▸ q2)
               · omega)
