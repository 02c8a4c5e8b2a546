theorem mkT_old (Q : Nat → Bool) : ∀ {s s' : Nat}, s ≤ s' → ∀ x, x < s → mkT Q s' x = mkT Q s x := by
  intro s s' h
  induction s' with
  | zero => intro x hx; omega
  | succ k ih =>
    intro x hx
    by_cases e : s = k + 1
    · subst e; rfl
    · rw [mkT]; simp only []
      rw [if_neg (by omega)]
      exact ih (by omega) x hx
theorem mkT_new (Q : Nat → Bool) (s : Nat) : mkT Q (s + 1) s = rowM Q (mkT Q s) s := by rw [mkT]; exact if_pos rfl
theorem fl_mono (p : Nat → Bool) {a b : Nat} (hab : a ≤ b) : (fl p a).length ≤ (fl p b).length := by
  induction b with
  | zero => have : a = 0 := by omega
            subst this; exact Nat.le_refl _
  | succ b ihb =>
    by_cases e2 : a = b + 1
    · subst e2; exact Nat.le_refl _
    · have h9 := ihb (by omega)
      rw [fl]; split
      · rw [List.length_append]; omega
      · exact h9
theorem max_I {a b : Nat} (ha : a < 2 ^ 31) (hb : b < 2 ^ 31) : (if nI a < nI b then nI b else nI a) = nI (max a b) := by
  by_cases h : a < b
  · rw [if_pos (nI_lt h hb), Nat.max_eq_right (by omega)]
  · rw [if_neg (nI_nlt (by omega) ha), Nat.max_eq_left (by omega)]
theorem lpR_fuel (Q : Nat → Bool) (g : Nat → Nat) (lo m : Nat) : ∀ (k rest acc : Nat), rest < k → lpR Q g lo m (rest + 1) rest acc = lpR Q g lo m k rest acc := by
  intro k
  induction k with
  | zero => intro rest acc h; omega
  | succ k ih =>
    intro rest acc h
    by_cases h0 : rest = 0
    · rw [lpR, lpR, if_pos h0, if_pos h0]
    · rw [lpR, lpR, if_neg h0, if_neg h0]
      have hd : (rest - 1) &&& m ≤ rest - 1 := Nat.and_le_left
      rw [← ih _ _ (show (rest - 1) &&& m < k by omega)]
      have key : ∀ (k2 k3 r a : Nat), r < k2 → r < k3 → lpR Q g lo m k2 r a = lpR Q g lo m k3 r a := by
        intro k2
        induction k2 with
        | zero => intro k3 r a h1; omega
        | succ k2 ih2 =>
          intro k3 r a h1 h2
          obtain ⟨k3, rfl⟩ : ∃ z, k3 = z + 1 := ⟨k3 - 1, by omega⟩
          by_cases r0 : r = 0
          · rw [lpR, lpR, if_pos r0, if_pos r0]
          · rw [lpR, lpR, if_neg r0, if_neg r0]
            have hd2 : (r - 1) &&& m ≤ r - 1 := Nat.and_le_left
            exact ih2 k3 _ _ (by omega) (by omega)
      exact key _ _ _ _ (by omega) (by omega)
set_option maxHeartbeats 4000000 in
set_option maxRecDepth 100000 in
theorem cM_most {l : Launch} {D : va_G} {cy : Nat → ClassId} {s0 : State} {ad : zA} {N : Nat → Nat} {sc : Nat → Int32} {ar : Nat → Nat → Int32} {f : Int32}  (hI : MI N (upd sc 0 0) ar) : zM l D cy s0 yX10_most cX10_most 7 (some .int) 4 0 0 [.ref (ad 30 0), .int f] ad (mW cy ad sc ar) (sP cy ad (s_most f (upd sc 0 0) ar)) := by
  refine zM_of (own := RX10) rfl (by decide) (by simp [Value.category]) (Nat.le_of_ble_eq_true rfl) ?_
  intro X hB
  show V X RX10 cX10_most 7 (some .int) 0 0 ad (mW cy ad sc ar) 0 [some (.ref (ad 30 0)), some (.int f), none, none, none, none, none] []
  refine v_aload_n dX10_most_0 rfl ?_
  refine v_iconst_v (v := 0) dX10_most_1 (by decide) ?_
  refine mp1 dX10_most_2 ?_
  generalize upd sc 0 0 = sc at hI hB ⊢
  obtain ⟨⟨hN, b2, b3, b4, b5, b6, b7, b8, b9, b10⟩, hS, hQ, hBl, hCh, hZ⟩ := id hI
  refine v_aload_n dX10_most_5 rfl ?_
  refine v_iload_n dX10_most_6 rfl ?_
  refine v_cVi1 hB k_X10_143 cM_isFamily (by decide) ⟨by decide, by decide⟩ rfl rfl (Nat.le_of_ble_eq_true rfl) dX10_most_7 ?_
  refine v_if_ne (tgt := 19) dX10_most_10 (by decide) (fun h10 => ?_) (fun h10 => ?_)
  · rw [bI_ne] at h10
    have ec : cands sc ar f = fl (mayB sc ar f) (N 4) := by unfold cands; rw [hN 4 (by decide) (by decide), cl_nI (by omega)]
    have K72 : ∀ (A : Nat → Nat → Int32), SR sc sc ar A → (fl (mayB sc ar f) (N 4)).length ≤ 12 → (∀ q, q < (fl (mayB sc ar f) (N 4)).length → A 40 q = nI ((fl (mayB sc ar f) (N 4)).getD q 0)) → V X RX10 cX10_most 7 (some .int) 0 0 ad (mW cy ad sc A) 72 [some (.ref (ad 30 0)), some (.int f), some (.int (nI (fl (mayB sc ar f) (N 4)).length)), some (.int (nI (N 4))), none, none, none] [] := by
      intro A hSR hl12 h40
      rw [← ec] at hl12 h40 ⊢
      have hp12 : 2 ^ (cands sc ar f).length ≤ 4096 := Nat.le_trans (Nat.pow_le_pow_right (by decide) hl12) (show 2 ^ 12 ≤ 4096 by decide)
      have hp1 : 1 ≤ 2 ^ (cands sc ar f).length := Nat.one_le_two_pow
      have hcd : ∀ p, p < (cands sc ar f).length → cMp sc ar f p < 200 ∧ ar 20 (cMp sc ar f p) = nI (cl (ar 20 (cMp sc ar f p))) ∧ cl (ar 20 (cMp sc ar f p)) ≤ 60 := by
        intro p hp
        have hm : cMp sc ar f p < cl (sc 4) := (fl_mem _ _ _ (getD_mem hp)).1
        rw [hN 4 (by decide) (by decide), cl_nI (by omega)] at hm
        obtain ⟨-, -, ⟨L, l1, l2, l3⟩, -⟩ := hS _ hm
        rw [l3, cl_nI (by omega)]
        exact ⟨by omega, rfl, l2⟩
      have outer : ∀ (m s : Nat) (A : Nat → Nat → Int32) (z4 z5 z6 : Option Value), 2 ^ (cands sc ar f).length < s + m → s ≤ 2 ^ (cands sc ar f).length → SR sc sc ar A → (∀ p, p < (cands sc ar f).length → A 40 p = nI (cMp sc ar f p)) → (∀ x, x < s → A 46 x = nI (mkT (isQ (fun q => cl (ar 20 (cMp sc ar f q))) (cands sc ar f).length (N 9) (N 10)) s x)) → V X RX10 cX10_most 7 (some .int) 0 0 ad (mW cy ad sc A) 74 [some (.ref (ad 30 0)), some (.int f), some (.int (nI (cands sc ar f).length)), some (.int (nI s)), z4, z5, z6] [] := by
        intro m
        induction m with
        | zero => intro s A z4 z5 z6 h1 h2; omega
        | succ m ih =>
          intro s A2 z4 z5 z6 h1 h2 hSR h40 h46
          have hl : ∀ p, p < (cands sc ar f).length → A2 40 p = nI (cMp sc ar f p) ∧ cMp sc ar f p < 200 ∧ A2 20 (cMp sc ar f p) = nI (cl (ar 20 (cMp sc ar f p))) ∧ cl (ar 20 (cMp sc ar f p)) ≤ 60 := by
            intro p hp
            obtain ⟨g1, g2, g3⟩ := hcd p hp
            exact ⟨h40 p hp, g1, by rw [hSR.2 20 (by decide) (by decide) (by decide) (by decide)]; exact g2, g3⟩
          refine v_iload_n dX10_most_74 rfl ?_
          refine v_iconst_v (v := 1) dX10_most_75 (by decide) ?_
          refine v_iload_n dX10_most_76 rfl ?_
          refine v_ishl dX10_most_77 ?_
          refine v_eq (shl_1 (cands sc ar f).length (by omega)) ?_
          refine v_icmp_ge (tgt := 191) dX10_most_78 (by decide) (fun h78 => ?_) (fun h78 => ?_)
          · rw [nI_leI (by omega) (by omega)] at h78
            refine v_aload_n dX10_most_191 rfl ?_
            refine v_aload_n dX10_most_192 rfl ?_
            refine mg120 dX10_most_193 ?_
            refine v_iconst_v (v := 1) dX10_most_196 (by decide) ?_
            refine v_iload_n dX10_most_197 rfl ?_
            refine v_ishl dX10_most_198 ?_
            refine v_iconst_v (v := 1) dX10_most_199 (by decide) ?_
            refine v_isub dX10_most_200 ?_
            refine v_eq (show (1 : Int32) <<< (nI (cands sc ar f).length &&& 31) - 1 = nI (2 ^ (cands sc ar f).length - 1) by rw [shl_1 (cands sc ar f).length (by omega)]; exact pk_sub (a := 2 ^ (cands sc ar f).length) (b := 1) (by omega)) ?_
            refine m_ldN 46 (L := 4096) hB.cy ⟨rfl, rfl, rfl⟩ rfl (by omega) (by decide) dX10_most_201 ?_
            rw [show s = 2 ^ (cands sc ar f).length by omega] at h46
            refine v_eq (h46 _ (by omega)) ?_
            refine v_cVi1 hB k_X10_140 cM_done (by decide) ⟨by decide, by decide⟩ rfl rfl (Nat.le_of_ble_eq_true rfl) dX10_most_202 ?_
            refine v_iret hB (by decide) (by decide) dX10_most_205 (sPost (sc1 := upd sc 1 0) (ar1 := ar) ?_ (hSR.upd 1 0))
            unfold s_most
            rw [if_pos h10, if_neg (by omega)]
            unfold mstV
            rw [hN 9 (by decide) (by decide), hN 10 (by decide) (by decide), cl_nI (by omega), cl_nI (by omega)]
          · rw [nI_leI (by omega) (by omega)] at h78
            have hsn : s < 2 ^ (cands sc ar f).length := by omega
            have hlo := lo_lt (show s < 4096 by omega)
            have KE : ∀ acc, acc = mkT (isQ (fun q => cl (ar 20 (cMp sc ar f q))) (cands sc ar f).length (N 9) (N 10)) (s + 1) s → ∀ {z5 z6 : Option Value}, V X RX10 cX10_most 7 (some .int) 0 0 ad (mW cy ad sc A2) 177 [some (.ref (ad 30 0)), some (.int f), some (.int (nI (cands sc ar f).length)), some (.int (nI s)), some (.int (nI acc)), z5, z6] [] := by
              intro acc hacc z5 z6
              refine v_aload_n dX10_most_177 rfl ?_
              refine mg120 dX10_most_178 ?_
              refine v_iload_n dX10_most_181 rfl ?_
              refine v_iload dX10_most_182 rfl ?_
              refine m_stN 46 (L := 4096) hB.cy ⟨rfl, rfl, rfl⟩ rfl (by omega) (by decide) dX10_most_184 ?_
              refine v_iinc3 (v := 1) dX10_most_185 (by decide) (by decide) ?_
              rw [nI_1]
              refine v_goto (tgt := 74) dX10_most_188 (by decide) ?_
              refine ih (s + 1) _ _ _ _ (by omega) (by omega) ⟨hSR.1, fun j p q r t => by rw [putA_n _ _ _ t]; exact hSR.2 j p q r t⟩ (fun p hp => by rw [putA_n _ _ _ (by decide)]; exact h40 p hp) (fun x hx => ?_)
              by_cases e : x = s
              · subst e; rw [putA_s, hacc]
              · rw [putA_m _ _ _ e, h46 x (by omega), mkT_old _ (Nat.le_succ s) x (by omega)]
            refine v_iconst_v (v := 0) dX10_most_81 (by decide) ?_
            refine v_istore4 dX10_most_82 (by decide) ?_
            refine v_iload_n dX10_most_84 rfl ?_
            refine v_iload_n dX10_most_85 rfl ?_
            refine v_ineg dX10_most_86 ?_
            refine v_iand dX10_most_87 ?_
            refine v_eq (low_I (by omega)) ?_
            refine v_istore5 dX10_most_88 (by decide) ?_
            refine v_iload_n dX10_most_90 rfl ?_
            refine v_if_eq (tgt := 105) dX10_most_91 (by decide) (fun h91 => ?_) (fun h91 => ?_)
            · have hs00 : s = 0 := (nI_eq (b := 0) (by omega) (by decide)).mp h91
              refine v_iload_n dX10_most_105 rfl ?_
              refine v_iload dX10_most_106 rfl ?_
              refine v_ixor dX10_most_108 ?_
              refine v_eq (show nI s ^^^ nI (loB s) = nI (hiB s) by rw [fb_xorI, x_hl]) ?_
              refine v_istore6 dX10_most_109 (by decide) ?_
              first
                | (refine inner (hiB s + 1) (hiB s) _ (by omega) (Nat.and_self _) ?_ ?_
                   · have := mkT_le (isQ (fun q => cl (ar 20 (cMp sc ar f q))) (cands sc ar f).length (N 9) (N 10)) s (hiB s); have := hi_lt hs0; omega
                   · rw [mkT_new]; unfold rowM; rw [if_neg (by omega)])
                | (refine v_iload_n dX10_most_111 rfl ?_
                   refine v_if_eq (tgt := 177) dX10_most_112 (by decide) (fun h112 => ?_) (fun h112 => absurd (show nI s = 0 by rw [hs00]; rfl) h112)
                   refine KE 0 ?_
                   rw [mkT_new]; unfold rowM; rw [if_pos hs00])
            · have hs0 : 0 < s := by
                rcases Nat.eq_zero_or_pos s with e | e
                · exact absurd (show nI s = 0 by rw [e]; rfl) h91
                · exact e
              have hlo2 : loB s < 2 ^ (cands sc ar f).length := Nat.xor_lt_two_pow hsn (Nat.lt_of_le_of_lt (Nat.le_of_lt (hi_lt hs0)) hsn)
              have inner : ∀ (m r acc : Nat), r < m → r &&& hiB s = r → acc ≤ s → lpR (isQ (fun q => cl (ar 20 (cMp sc ar f q))) (cands sc ar f).length (N 9) (N 10)) (mkT (isQ (fun q => cl (ar 20 (cMp sc ar f q))) (cands sc ar f).length (N 9) (N 10)) s) (loB s) (hiB s) (r + 1) r acc = mkT (isQ (fun q => cl (ar 20 (cMp sc ar f q))) (cands sc ar f).length (N 9) (N 10)) (s + 1) s → V X RX10 cX10_most 7 (some .int) 0 0 ad (mW cy ad sc A2) 111 [some (.ref (ad 30 0)), some (.int f), some (.int (nI (cands sc ar f).length)), some (.int (nI s)), some (.int (nI acc)), some (.int (nI (loB s))), some (.int (nI r))] [] := by
                intro m
                induction m with
                | zero => intro r acc h1; omega
                | succ m ihm =>
                  intro r acc h1 hr hacc hres
                  have hrl : r ≤ hiB s := by rw [← hr]; exact Nat.and_le_right
                  have hxl := xor_sub_le hr
                  have hg := mkT_le (isQ (fun q => cl (ar 20 (cMp sc ar f q))) (cands sc ar f).length (N 9) (N 10)) s (hiB s ^^^ r)
                  rw [lpR] at hres
                  refine v_iload_n dX10_most_111 rfl ?_
                  refine v_if_eq (tgt := 177) dX10_most_112 (by decide) (fun h112 => ?_) (fun h112 => ?_)
                  · exact absurd h112 (nI_ne0 hs0 (by omega))
                  · refine v_iload dX10_most_115 rfl ?_
                    refine v_if_lt (tgt := 177) dX10_most_117 (by decide) (fun h117 => ?_) (fun h117 => ?_)
                    · exact absurd h117 (nI_pos (by omega))
                    · refine v_aload_n dX10_most_120 rfl ?_
                      refine v_iload dX10_most_121 rfl ?_
                      refine v_iload dX10_most_123 rfl ?_
                      refine v_ior dX10_most_125 ?_
                      refine v_eq (fa_or r (loB s)) ?_
                      refine v_iload_n dX10_most_126 rfl ?_
                      refine v_cVi2 hB k_X10_202 (cM_isQuill (mp := cMp sc ar f) (ln := fun q => cl (ar 20 (cMp sc ar f q))) (n := (cands sc ar f).length) (s := r ||| loB s) (sp := N 9) (lp := N 10) (by omega) (or_lt (by omega) hlo.1) ?_ ?_ (hN 9 (by decide) (by decide)) (by omega) (hN 10 (by decide) (by decide)) (by omega) hl) (by decide) ⟨by decide, by decide⟩ rfl rfl (Nat.le_of_ble_eq_true rfl) dX10_most_127 ?_
                      · have := @Nat.right_le_or r (loB s); have := hlo.2.2 hs0; omega
                      · exact Nat.or_lt_two_pow (Nat.lt_of_le_of_lt (Nat.le_trans hrl (Nat.le_of_lt (hi_lt hs0))) hsn) hlo2
                      refine v_if_eq (tgt := 154) dX10_most_130 (by decide) (fun h130 => ?_) (fun h130 => ?_)
                      · rw [bI_eq] at h130
                        refine v_iload dX10_most_154 rfl ?_
                        refine v_if_ne (tgt := 163) dX10_most_156 (by decide) (fun h156 => ?_) (fun h156 => ?_)
                        · have h156 : ¬ r = 0 := fun z => h156 (by rw [z]; rfl)
                          refine v_iload dX10_most_163 rfl ?_
                          refine v_iconst_v (v := 1) dX10_most_165 (by decide) ?_
                          refine v_isub dX10_most_166 ?_
                          refine v_eq (show nI r - 1 = nI (r - 1) from pk_sub (a := r) (b := 1) (by omega)) ?_
                          refine v_iload_n dX10_most_167 rfl ?_
                          refine v_iload dX10_most_168 rfl ?_
                          refine v_ixor dX10_most_170 ?_
                          refine v_eq (show nI s ^^^ nI (loB s) = nI (hiB s) by rw [fb_xorI, x_hl]) ?_
                          refine v_iand dX10_most_171 ?_
                          first | refine v_eq (fa_and (r - 1) (hiB s)) ?_ | skip
                          refine v_istore6 dX10_most_172 (by decide) ?_
                          refine v_goto (tgt := 111) dX10_most_174 (by decide) ?_
                          by_cases hr0 : r = 0
                          · first
                              | exact absurd hr0 h156
                              | (rw [if_pos hr0] at hres
                                 refine v_iload_n dX10_most_111 rfl ?_
                                 refine v_if_eq (tgt := 177) dX10_most_112 (by decide) (fun h112 => absurd h112 (nI_ne0 hs0 (by omega))) (fun h112 => ?_)
                                 refine v_iload dX10_most_115 rfl ?_
                                 refine v_if_lt (tgt := 177) dX10_most_117 (by decide) (fun h117 => ?_) (fun h117 => absurd (by decide) h117)
                                 refine KE _ ?_
                                 rw [← hres]
                                 first | rw [if_pos h130, hr0] | rw [if_neg h130])
                          · rw [if_neg hr0] at hres
                            have hd : (r - 1) &&& hiB s ≤ r - 1 := Nat.and_le_left
                            first
                              | exact absurd h156 hr0
                              | (refine ihm _ _ (by omega) (sub_and _ _) ?_ ?_
                                 · first | (have := hi_lt hs0; omega) | exact hacc
                                 · rw [← hres]
                                   first | (rw [if_pos h130]; exact lpR_fuel _ _ _ _ _ _ _ (by omega)) | (rw [if_neg h130]; exact lpR_fuel _ _ _ _ _ _ _ (by omega)))
                        · have h156 : r = 0 := (nI_eq (b := 0) (by omega) (by decide)).mp h156
                          refine v_iconst_v (v := -1) dX10_most_159 (by decide) ?_
                          refine v_goto (tgt := 172) dX10_most_160 (by decide) ?_
                          first | refine v_eq (fa_and (r - 1) (hiB s)) ?_ | skip
                          refine v_istore6 dX10_most_172 (by decide) ?_
                          refine v_goto (tgt := 111) dX10_most_174 (by decide) ?_
                          by_cases hr0 : r = 0
                          · first
                              | exact absurd hr0 h156
                              | (rw [if_pos hr0] at hres
                                 refine v_iload_n dX10_most_111 rfl ?_
                                 refine v_if_eq (tgt := 177) dX10_most_112 (by decide) (fun h112 => absurd h112 (nI_ne0 hs0 (by omega))) (fun h112 => ?_)
                                 refine v_iload dX10_most_115 rfl ?_
                                 refine v_if_lt (tgt := 177) dX10_most_117 (by decide) (fun h117 => ?_) (fun h117 => absurd (by decide) h117)
                                 refine KE _ ?_
                                 rw [← hres]
                                 first | rw [if_pos h130, hr0] | rw [if_neg h130])
                          · rw [if_neg hr0] at hres
                            have hd : (r - 1) &&& hiB s ≤ r - 1 := Nat.and_le_left
                            first
                              | exact absurd h156 hr0
                              | (refine ihm _ _ (by omega) (sub_and _ _) ?_ ?_
                                 · first | (have := hi_lt hs0; omega) | exact hacc
                                 · rw [← hres]
                                   first | (rw [if_pos h130]; exact lpR_fuel _ _ _ _ _ _ _ (by omega)) | (rw [if_neg h130]; exact lpR_fuel _ _ _ _ _ _ _ (by omega)))
                      · rw [bI_ne] at h130
                        refine v_iload dX10_most_133 rfl ?_
                        refine v_iconst_v (v := 1) dX10_most_135 (by decide) ?_
                        refine v_aload_n dX10_most_136 rfl ?_
                        refine mg120 dX10_most_137 ?_
                        refine v_iload_n dX10_most_140 rfl ?_
                        refine v_iload dX10_most_141 rfl ?_
                        refine v_ixor dX10_most_143 ?_
                        refine v_eq (show nI s ^^^ nI (loB s) = nI (hiB s) by rw [fb_xorI, x_hl]) ?_
                        refine v_iload dX10_most_144 rfl ?_
                        refine v_ixor dX10_most_146 ?_
                        refine v_eq (fb_xorI (hiB s) r) ?_
                        refine m_ldN 46 (L := 4096) hB.cy ⟨rfl, rfl, rfl⟩ rfl (by omega) (by decide) dX10_most_147 ?_
                        refine v_eq (h46 _ (by have := hi_lt hs0; omega)) ?_
                        refine v_iadd dX10_most_148 ?_
                        refine v_eq (nI_add 1 _) ?_
                        refine v_max hB max_X10_183 max_s math_i max_c (by decide) ⟨by decide, by decide⟩ (Nat.le_of_ble_eq_true rfl) dX10_most_149 ?_
                        refine v_eq (max_I (by omega) (by omega)) ?_
                        refine v_istore4 dX10_most_152 (by decide) ?_
                        refine v_iload dX10_most_154 rfl ?_
                        refine v_if_ne (tgt := 163) dX10_most_156 (by decide) (fun h156 => ?_) (fun h156 => ?_)
                        · have h156 : ¬ r = 0 := fun z => h156 (by rw [z]; rfl)
                          refine v_iload dX10_most_163 rfl ?_
                          refine v_iconst_v (v := 1) dX10_most_165 (by decide) ?_
                          refine v_isub dX10_most_166 ?_
                          refine v_eq (show nI r - 1 = nI (r - 1) from pk_sub (a := r) (b := 1) (by omega)) ?_
                          refine v_iload_n dX10_most_167 rfl ?_
                          refine v_iload dX10_most_168 rfl ?_
                          refine v_ixor dX10_most_170 ?_
                          refine v_eq (show nI s ^^^ nI (loB s) = nI (hiB s) by rw [fb_xorI, x_hl]) ?_
                          refine v_iand dX10_most_171 ?_
                          first | refine v_eq (fa_and (r - 1) (hiB s)) ?_ | skip
                          refine v_istore6 dX10_most_172 (by decide) ?_
                          refine v_goto (tgt := 111) dX10_most_174 (by decide) ?_
                          by_cases hr0 : r = 0
                          · first
                              | exact absurd hr0 h156
                              | (rw [if_pos hr0] at hres
                                 refine v_iload_n dX10_most_111 rfl ?_
                                 refine v_if_eq (tgt := 177) dX10_most_112 (by decide) (fun h112 => absurd h112 (nI_ne0 hs0 (by omega))) (fun h112 => ?_)
                                 refine v_iload dX10_most_115 rfl ?_
                                 refine v_if_lt (tgt := 177) dX10_most_117 (by decide) (fun h117 => ?_) (fun h117 => absurd (by decide) h117)
                                 refine KE _ ?_
                                 rw [← hres]
                                 first | rw [if_pos h130, hr0] | rw [if_neg h130])
                          · rw [if_neg hr0] at hres
                            have hd : (r - 1) &&& hiB s ≤ r - 1 := Nat.and_le_left
                            first
                              | exact absurd h156 hr0
                              | (refine ihm _ _ (by omega) (sub_and _ _) ?_ ?_
                                 · first | (have := hi_lt hs0; omega) | exact hacc
                                 · rw [← hres]
                                   first | (rw [if_pos h130]; exact lpR_fuel _ _ _ _ _ _ _ (by omega)) | (rw [if_neg h130]; exact lpR_fuel _ _ _ _ _ _ _ (by omega)))
                        · have h156 : r = 0 := (nI_eq (b := 0) (by omega) (by decide)).mp h156
                          refine v_iconst_v (v := -1) dX10_most_159 (by decide) ?_
                          refine v_goto (tgt := 172) dX10_most_160 (by decide) ?_
                          first | refine v_eq (fa_and (r - 1) (hiB s)) ?_ | skip
                          refine v_istore6 dX10_most_172 (by decide) ?_
                          refine v_goto (tgt := 111) dX10_most_174 (by decide) ?_
                          by_cases hr0 : r = 0
                          · first
                              | exact absurd hr0 h156
                              | (rw [if_pos hr0] at hres
                                 refine v_iload_n dX10_most_111 rfl ?_
                                 refine v_if_eq (tgt := 177) dX10_most_112 (by decide) (fun h112 => absurd h112 (nI_ne0 hs0 (by omega))) (fun h112 => ?_)
                                 refine v_iload dX10_most_115 rfl ?_
                                 refine v_if_lt (tgt := 177) dX10_most_117 (by decide) (fun h117 => ?_) (fun h117 => absurd (by decide) h117)
                                 refine KE _ ?_
                                 rw [← hres]
                                 first | rw [if_pos h130, hr0] | rw [if_neg h130])
                          · rw [if_neg hr0] at hres
                            have hd : (r - 1) &&& hiB s ≤ r - 1 := Nat.and_le_left
                            first
                              | exact absurd h156 hr0
                              | (refine ihm _ _ (by omega) (sub_and _ _) ?_ ?_
                                 · first | (have := hi_lt hs0; omega) | exact hacc
                                 · rw [← hres]
                                   first | (rw [if_pos h130]; exact lpR_fuel _ _ _ _ _ _ _ (by omega)) | (rw [if_neg h130]; exact lpR_fuel _ _ _ _ _ _ _ (by omega)))
              refine v_aload_n dX10_most_94 rfl ?_
              refine mg120 dX10_most_95 ?_
              refine v_iload_n dX10_most_98 rfl ?_
              refine v_iload dX10_most_99 rfl ?_
              refine v_ixor dX10_most_101 ?_
              refine v_eq (show nI s ^^^ nI (loB s) = nI (hiB s) by rw [fb_xorI, x_hl]) ?_
              refine m_ldN 46 (L := 4096) hB.cy ⟨rfl, rfl, rfl⟩ rfl (by have := hi_lt hs0; omega) (by decide) dX10_most_102 ?_
              refine v_eq (h46 _ (hi_lt hs0)) ?_
              refine v_istore4 dX10_most_103 (by decide) ?_
              refine v_iload_n dX10_most_105 rfl ?_
              refine v_iload dX10_most_106 rfl ?_
              refine v_ixor dX10_most_108 ?_
              refine v_eq (show nI s ^^^ nI (loB s) = nI (hiB s) by rw [fb_xorI, x_hl]) ?_
              refine v_istore6 dX10_most_109 (by decide) ?_
              first
                | (refine inner (hiB s + 1) (hiB s) _ (by omega) (Nat.and_self _) ?_ ?_
                   · have := mkT_le (isQ (fun q => cl (ar 20 (cMp sc ar f q))) (cands sc ar f).length (N 9) (N 10)) s (hiB s); have := hi_lt hs0; omega
                   · rw [mkT_new]; unfold rowM; rw [if_neg (by omega)])
                | (refine v_iload_n dX10_most_111 rfl ?_
                   refine v_if_eq (tgt := 177) dX10_most_112 (by decide) (fun h112 => ?_) (fun h112 => absurd (show nI s = 0 by rw [hs00]; rfl) h112)
                   refine KE 0 ?_
                   rw [mkT_new]; unfold rowM; rw [if_pos hs00])
      refine v_iconst_v (v := 0) dX10_most_72 (by decide) ?_
      refine v_istore_n3 dX10_most_73 (by decide) ?_
      exact outer (2 ^ (cands sc ar f).length + 1) 0 A none none none (by omega) (by omega) hSR h40 (fun x hx => absurd hx (Nat.not_lt_zero _))
    have loop1 : ∀ (m i : Nat) (A : Nat → Nat → Int32), N 4 < i + m → i ≤ N 4 → SR sc sc ar A → (fl (mayB sc ar f) i).length ≤ 12 → (∀ q, q < (fl (mayB sc ar f) i).length → A 40 q = nI ((fl (mayB sc ar f) i).getD q 0)) → V X RX10 cX10_most 7 (some .int) 0 0 ad (mW cy ad sc A) 23 [some (.ref (ad 30 0)), some (.int f), some (.int (nI (fl (mayB sc ar f) i).length)), some (.int (nI i)), none, none, none] [] := by
      intro m
      induction m with
      | zero => intro i A h1 h2; omega
      | succ m ih =>
        intro i A h1 h2 hSR hl12 h40
        have hI2 := hI.keep hSR
        refine v_iload_n dX10_most_23 rfl ?_
        refine v_aload_n dX10_most_24 rfl ?_
        refine mg129 dX10_most_25 ?_
        refine v_icmp_ge (tgt := 72) dX10_most_28 (by decide) (fun h28 => ?_) (fun h28 => ?_)
        · rw [hN 4 (by decide) (by decide), nI_leI (by omega) (by omega)] at h28
          rw [show i = N 4 by omega] at hl12 h40 ⊢
          exact K72 A hSR hl12 h40
        · rw [hN 4 (by decide) (by decide), nI_leI (by omega) (by omega)] at h28
          refine v_aload_n dX10_most_31 rfl ?_
          refine v_iload_n dX10_most_32 rfl ?_
          refine v_iload_n dX10_most_33 rfl ?_
          refine v_cVi2 hB k_X10_166 (cM_mayBe hI2 (by omega)) (by decide) ⟨by decide, by decide⟩ rfl rfl (Nat.le_of_ble_eq_true rfl) dX10_most_34 ?_
          refine v_if_ne (tgt := 43) dX10_most_37 (by decide) (fun h37 => ?_) (fun h37 => ?_)
          · rw [bI_ne, mayB_keep hSR] at h37
            have hstep : fl (mayB sc ar f) (i + 1) = fl (mayB sc ar f) i ++ [i] := if_pos ⟨h37, by omega⟩
            refine v_iload_n dX10_most_43 rfl ?_
            refine v_bipush_v (v := 12) dX10_most_44 (by decide) ?_
            refine v_icmp_ne (tgt := 56) dX10_most_46 (by decide) (fun h46 => ?_) (fun h46 => ?_)
            · have h46 : ¬ (fl (mayB sc ar f) i).length = 12 := fun z => h46 (by rw [z]; rfl)
              refine v_aload_n dX10_most_56 rfl ?_
              refine mg111 dX10_most_57 ?_
              refine v_iload_n dX10_most_60 rfl ?_
              refine v_iload_n dX10_most_61 rfl ?_
              refine m_stN 40 (L := 30) hB.cy ⟨rfl, rfl, rfl⟩ rfl (by omega) (by decide) dX10_most_62 ?_
              refine v_iinc2 (v := 1) dX10_most_63 (by decide) (by decide) ?_
              refine v_iinc3 (v := 1) dX10_most_66 (by decide) (by decide) ?_
              rw [nI_1]
              refine v_goto (tgt := 23) dX10_most_69 (by decide) ?_
              by_cases hmb : mayB sc ar f i = true
              · have hstep2 : fl (mayB sc ar f) (i + 1) = fl (mayB sc ar f) i ++ [i] := if_pos ⟨hmb, by omega⟩
                first
                  | exact absurd hmb h37
                  | (rw [nI_1]
                     have e := ih (i + 1) (putA A 40 (fl (mayB sc ar f) i).length (nI i)) (by omega) (by omega) ⟨hSR.1, fun j p q r t => by rw [putA_n _ _ _ p]; exact hSR.2 j p q r t⟩ (by rw [hstep2, List.length_append, List.length_singleton]; omega) (fun q hq => by
                       rw [hstep2] at hq ⊢
                       rw [List.length_append, List.length_singleton] at hq
                       by_cases e : q = (fl (mayB sc ar f) i).length
                       · subst e; rw [putA_s, getD_end _ rfl]
                       · rw [putA_m _ _ _ e, getD_app _ rfl (by omega)]; exact h40 q (by omega))
                     rw [hstep2, List.length_append, List.length_singleton] at e
                     exact e)
              · have hstep2 : fl (mayB sc ar f) (i + 1) = fl (mayB sc ar f) i := if_neg (fun z => hmb z.1)
                first
                  | exact absurd h37 hmb
                  | (have e := ih (i + 1) A (by omega) (by omega) hSR (by rw [hstep2]; exact hl12) (by rw [hstep2]; exact h40)
                     rw [hstep2] at e
                     exact e)
            · have h46 : (fl (mayB sc ar f) i).length = 12 := (nI_eq (b := 12) (by omega) (by decide)).mp h46
              refine v_aload_n dX10_most_49 rfl ?_
              refine v_bipush_v (v := 6) dX10_most_50 (by decide) ?_
              refine v_cVi1 hB k_X10_136 cM_refused (by decide) ⟨by decide, by decide⟩ rfl rfl (Nat.le_of_ble_eq_true rfl) dX10_most_52 ?_
              refine v_iret hB (by decide) (by decide) dX10_most_55 (sPost (sc1 := upd sc 1 6) (ar1 := ar) ?_ (hSR.upd 1 6))
              unfold s_most
              rw [if_pos h10, if_pos ?_]
              rw [ec]
              have e := fl_mono (mayB sc ar f) (show i + 1 ≤ N 4 by omega)
              rw [hstep, List.length_append, List.length_singleton] at e
              omega
          · rw [bI_eq, mayB_keep hSR] at h37
            refine v_goto (tgt := 66) dX10_most_40 (by decide) ?_
            refine v_iinc3 (v := 1) dX10_most_66 (by decide) (by decide) ?_
            rw [nI_1]
            refine v_goto (tgt := 23) dX10_most_69 (by decide) ?_
            by_cases hmb : mayB sc ar f i = true
            · have hstep2 : fl (mayB sc ar f) (i + 1) = fl (mayB sc ar f) i ++ [i] := if_pos ⟨hmb, by omega⟩
              first
                | exact absurd hmb h37
                | (rw [nI_1]
                   have e := ih (i + 1) (putA A 40 (fl (mayB sc ar f) i).length (nI i)) (by omega) (by omega) ⟨hSR.1, fun j p q r t => by rw [putA_n _ _ _ p]; exact hSR.2 j p q r t⟩ (by rw [hstep2, List.length_append, List.length_singleton]; omega) (fun q hq => by
                     rw [hstep2] at hq ⊢
                     rw [List.length_append, List.length_singleton] at hq
                     by_cases e : q = (fl (mayB sc ar f) i).length
                     · subst e; rw [putA_s, getD_end _ rfl]
                     · rw [putA_m _ _ _ e, getD_app _ rfl (by omega)]; exact h40 q (by omega))
                   rw [hstep2, List.length_append, List.length_singleton] at e
                   exact e)
            · have hstep2 : fl (mayB sc ar f) (i + 1) = fl (mayB sc ar f) i := if_neg (fun z => hmb z.1)
              first
                | exact absurd h37 hmb
                | (have e := ih (i + 1) A (by omega) (by omega) hSR (by rw [hstep2]; exact hl12) (by rw [hstep2]; exact h40)
                   rw [hstep2] at e
                   exact e)
    refine v_iconst_v (v := 0) dX10_most_19 (by decide) ?_
    refine v_istore_n2 dX10_most_20 (by decide) ?_
    refine v_iconst_v (v := 0) dX10_most_21 (by decide) ?_
    refine v_istore_n3 dX10_most_22 (by decide) ?_
    exact loop1 (N 4 + 1) 0 ar (by omega) (by omega) (SR.refl _ _) (Nat.zero_le _) (fun q hq => absurd hq (Nat.not_lt_zero _))
  · rw [bI_eq] at h10
    refine v_aload_n dX10_most_13 rfl ?_
    refine v_iconst_v (v := 1) dX10_most_14 (by decide) ?_
    refine v_cVi1 hB k_X10_136 cM_refused (by decide) ⟨by decide, by decide⟩ rfl rfl (Nat.le_of_ble_eq_true rfl) dX10_most_15 ?_
    exact v_iret hB (by decide) (by decide) dX10_most_18 (sPost (by unfold s_most; rw [if_neg h10]) (SR.refl _ _))

