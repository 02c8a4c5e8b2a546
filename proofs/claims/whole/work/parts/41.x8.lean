def gP (cy : Nat → ClassId) (ad : zA) (sc : Nat → Int32) (ar : Nat → Nat → Int32) (mo : Nat → Int32) (cp cn al : Nat → Nat) (q3 pa : Nat → Nat → Int32) (pn : Nat → Nat) (N : Nat → Nat) (f : Int32) : Option Value → zA → zW → Prop := fun r ad2 w2 => ∃ v, r = some (.int v) ∧ ad2 = ad ∧ ∃ js2 tau2, w2 = xW cy ad sc ar tau2 js2 mo cp cn al q3 pa pn ∧ match bestS sc ar f with
  | none => v = 0
  | some pl => v = nI pl.length ∧ 1 ≤ pl.length ∧ pl.length ≤ 4 ∧ ∃ K, js2 0 = nI K ∧ K ≤ 30 ∧ ∀ i, i < pl.length → ∃ q, q < K ∧ tau2 6 i = nI q ∧ tau2 1 q = nI (pl.getD i 0) ∧ pl.getD i 0 < N 4
theorem fB_in (sc : Nat → Int32) (ar : Nat → Nat → Int32) (f : Int32) (p : List Nat) (h : fBst (bstQ sc ar f) = some p) : ∀ x ∈ p, x < (cands sc ar f).length := by
  have key : ∀ n t p, bstQ sc ar f n = some (t, p) → ∀ x ∈ p, x < (cands sc ar f).length := fun n t p hc => chs_in _ _ _ _ _ _ _ _ _ _ (fun x hx => by cases hx) (fun t p z => by cases z) t p hc
  unfold fBst at h
  cases h1 : bstQ sc ar f 1 with
  | some q => rw [h1] at h; cases h; exact key 1 q.1 q.2 h1
  | none =>
    rw [h1] at h
    cases h2 : bstQ sc ar f 2 with
    | some q => rw [h2] at h; cases h; exact key 2 q.1 q.2 h2
    | none =>
      rw [h2] at h
      cases h3 : bstQ sc ar f 3 with
      | some q => rw [h3] at h; cases h; exact key 3 q.1 q.2 h3
      | none =>
        rw [h3] at h
        cases h4 : bstQ sc ar f 4 with
        | some q => rw [h4] at h; cases h; exact key 4 q.1 q.2 h4
        | none => rw [h4] at h; cases h
set_option maxHeartbeats 4000000 in
set_option maxRecDepth 100000 in
theorem pX9_findBest {l : Launch} {D : va_G} {cy : Nat → ClassId} {s0 : State} {ad : zA} {sc : Nat → Int32} {ar tau : Nat → Nat → Int32} {js mo : Nat → Int32} {cp cn al : Nat → Nat} {q3 pa : Nat → Nat → Int32} {pn : Nat → Nat} {N : Nat → Nat} {f : Int32} (hI : MI N sc ar) (hJ : XI N ar cp cn al q3 pa pn) : zM l D cy s0 yX9_findBest cX9_findBest 4 (some .int) 7 0 0 [.ref (ad 0 0), .int f] ad (xW cy ad sc ar tau js mo cp cn al q3 pa pn) (gP cy ad sc ar mo cp cn al q3 pa pn N f) := by
  refine zM_of (own := RX9) rfl (by decide) (by simp [Value.category]) (Nat.le_of_ble_eq_true rfl) ?_
  intro X hB
  show V X RX9 cX9_findBest 4 (some .int) 0 0 ad (xW cy ad sc ar tau js mo cp cn al q3 pa pn) 0 [some (.ref (ad 0 0)), some (.int f), none, none] []
  obtain ⟨⟨hN, b2, b3, b4, b5, b6, b7, b8, b9, b10⟩, hS, hQ, hBl, hCh, hZ⟩ := id hI
  obtain ⟨⟨c0, c1, c2, c3, c4, c5⟩, hx, hq3⟩ := id hJ
  have x0 := hx 0 (by decide)
  have x1 := hx 1 (by decide)
  have x2 := hx 2 (by decide)
  have x3 := hx 3 (by decide)
  have x4 := hx 4 (by decide)
  have x5 := hx 5 (by decide)
  have K73 : ∀ (js2 : Nat → Int32) (tau2 : Nat → Nat → Int32) {z z3 : Option Value}, js2 0 = nI (fl (mayB sc ar f) (N 4)).length → (∀ q, q < (fl (mayB sc ar f) (N 4)).length → tau2 1 q = nI ((fl (mayB sc ar f) (N 4)).getD q 0) ∧ tau2 2 q = ar 20 ((fl (mayB sc ar f) (N 4)).getD q 0) ∧ tau2 3 q = ar 22 ((fl (mayB sc ar f) (N 4)).getD q 0)) → V X RX9 cX9_findBest 4 (some .int) 0 0 ad (xW cy ad sc ar tau2 js2 mo cp cn al q3 pa pn) 73 [some (.ref (ad 0 0)), some (.int f), z, z3] [] := by
    intro js2 tau2 z z3 h0 h40
    have hln := fl_len (mayB sc ar f) (N 4)
    have ec : cands sc ar f = fl (mayB sc ar f) (N 4) := by unfold cands; rw [hN 4 (by decide) (by decide), cl_nI (by omega)]
    have hJx : JI (cMp sc ar f) (fun q => cl (ar 20 (cMp sc ar f q))) (fun q => cl (ar 22 (cMp sc ar f q))) (cands sc ar f).length js2 tau2 := by
      refine ⟨⟨by rw [ec]; exact h0, by rw [ec]; omega⟩, fun p hp => ?_⟩
      have hp2 : p < (fl (mayB sc ar f) (N 4)).length := by rw [← ec]; exact hp
      have em : cMp sc ar f p = (fl (mayB sc ar f) (N 4)).getD p 0 := by unfold cMp; rw [ec]
      have hm := (fl_mem _ _ _ (getD_mem hp2)).1
      rw [← em] at hm
      obtain ⟨a1, a2, a3⟩ := h40 p hp2
      rw [← em] at a1 a2 a3
      obtain ⟨-, -, ⟨L, l1, l2, l3⟩, -, ⟨t, t1, t2⟩, -⟩ := hS _ hm
      refine ⟨a1, ?_, ?_, ?_, ?_⟩
      · rw [a2]; show ar 20 (cMp sc ar f p) = nI (cl (ar 20 (cMp sc ar f p)))
        rw [l3, cl_nI (by omega)]
      · rw [a3]; show ar 22 (cMp sc ar f p) = nI (cl (ar 22 (cMp sc ar f p)))
        rw [t2, cl_nI (by omega)]
      · show 1 ≤ cl (ar 20 (cMp sc ar f p)) ∧ cl (ar 20 (cMp sc ar f p)) ≤ 60
        rw [l3, cl_nI (by omega)]; exact ⟨l1, l2⟩
      · show cl (ar 22 (cMp sc ar f p)) ≤ 9
        rw [t2, cl_nI (by omega)]; exact t1
    have eq9 : (fun n => chs (fun q => cl (ar 20 (cMp sc ar f q))) (fun q => cl (ar 22 (cMp sc ar f q))) (cands sc ar f).length (N 9 + N 10 * (n - 1)) n 0 0 0 [] none) = bstQ sc ar f := by
      funext n; unfold bstQ
      rw [hN 9 (by decide) (by decide), hN 10 (by decide) (by decide), cl_nI (by omega), cl_nI (by omega)]
    refine v_aload_n dX9_findBest_73 rfl ?_
    refine xg_X9_41 dX9_findBest_74 ?_
    refine v_aload_n dX9_findBest_77 rfl ?_
    refine xg_X9_56 dX9_findBest_78 ?_
    refine v_eq (hN 9 (by decide) (by decide)) ?_
    refine v_aload_n dX9_findBest_81 rfl ?_
    refine xg_X9_60 dX9_findBest_82 ?_
    refine v_eq (hN 10 (by decide) (by decide)) ?_
    refine v_cVg2 hB k_X9_293 (pX4_sizeOfBest (sp := N 9) (lp := N 10) hJx (by omega) (by omega)) ⟨by decide, by decide⟩ ⟨by decide, by decide⟩ rfl rfl (Nat.le_of_ble_eq_true rfl) dX9_findBest_85 ?_
    rintro rr ad2 w2 ⟨v, rfl, rfl, js3, tau3, rfl, e0, e1, hq⟩
    show V X RX9 cX9_findBest 4 (some .int) 0 0 ad2 _ 88 _ [_]
    rw [eq9] at hq
    refine v_iret hB (by decide) (by decide) dX9_findBest_88 ⟨v, rfl, rfl, js3, tau3, rfl, ?_⟩
    unfold bestS
    cases hfb : fBst (bstQ sc ar f) with
    | none => rw [hfb] at hq; exact hq
    | some p =>
      rw [hfb] at hq
      obtain ⟨g1, g2, g3, g4⟩ := hq
      show v = nI (p.map (cMp sc ar f)).length ∧ 1 ≤ (p.map (cMp sc ar f)).length ∧ (p.map (cMp sc ar f)).length ≤ 4 ∧ _
      rw [List.length_map]
      refine ⟨g1, g2, g3, (cands sc ar f).length, by rw [e0, h0, ec], by rw [ec]; omega, fun i hi => ?_⟩
      have hge : (p.map (cMp sc ar f)).getD i 0 = cMp sc ar f (p.getD i 0) := by
        rw [List.getD_eq_getElem?_getD, List.getD_eq_getElem?_getD, List.getElem?_map, List.getElem?_eq_getElem hi]; rfl
      have hpi : p.getD i 0 < (cands sc ar f).length := fB_in sc ar f p hfb _ (getD_mem hi)
      refine ⟨p.getD i 0, hpi, g4 i hi, ?_, ?_⟩
      · rw [hge, e1]; exact (hJx.2 _ hpi).1
      · rw [hge]
        have h9 : cMp sc ar f (p.getD i 0) < cl (sc 4) := (fl_mem _ _ _ (getD_mem hpi)).1
        rw [show cl (sc 4) = N 4 by rw [hN 4 (by decide) (by decide), cl_nI (by omega)]] at h9
        exact h9
  have loop1 : ∀ (m : Nat) (i : Nat) (js2 : Nat → Int32) (tau2 : Nat → Nat → Int32) (z3 : Option Value), N 4 < i + m → i ≤ N 4 → js2 0 = nI (fl (mayB sc ar f) i).length → (∀ q, q < (fl (mayB sc ar f) i).length → tau2 1 q = nI ((fl (mayB sc ar f) i).getD q 0) ∧ tau2 2 q = ar 20 ((fl (mayB sc ar f) i).getD q 0) ∧ tau2 3 q = ar 22 ((fl (mayB sc ar f) i).getD q 0)) → V X RX9 cX9_findBest 4 (some .int) 0 0 ad (xW cy ad sc ar tau2 js2 mo cp cn al q3 pa pn) 9 [some (.ref (ad 0 0)), some (.int f), some (.int (nI i)), z3] [] := by
    intro m
    induction m with
    | zero => intro i js2 tau2 z3 h1 h2 h0 h40; omega
    | succ m ih =>
      intro i js2 tau2 z3 h1 h2 h0 h40
      have hln := fl_len (mayB sc ar f) i
      refine v_iload_n dX9_findBest_9 rfl ?_
      refine v_aload_n dX9_findBest_10 rfl ?_
      refine xg_X9_19 dX9_findBest_11 ?_
      refine v_cVi0 hB k_X9_77 (pJx4a65c_size_8abf5 (by omega)) (by decide) ⟨by decide, by decide⟩ rfl rfl (Nat.le_of_ble_eq_true rfl) dX9_findBest_14 ?_
      refine v_icmp_ge (tgt := 73) dX9_findBest_17 (by decide) (fun h17 => ?_) (fun h17 => ?_)
      · rw [nI_leI (by omega) (by omega)] at h17
        have hend : fl (mayB sc ar f) (N 4) = fl (mayB sc ar f) i := by
          first | (rw [show i = N 4 by omega]; done) | exact fl_full _ h2 (by omega)
        exact K73 js2 tau2 (by rw [hend]; exact h0) (by rw [hend]; exact h40)
      · rw [nI_leI (by omega) (by omega)] at h17
        refine v_aload_n dX9_findBest_20 rfl ?_
        refine xg_X9_41 dX9_findBest_21 ?_
        refine v_cVi0 hB k_X9_286 (pX4_hasRoom h0 (by omega)) (by decide) ⟨by decide, by decide⟩ rfl rfl (Nat.le_of_ble_eq_true rfl) dX9_findBest_24 ?_
        refine v_if_eq (tgt := 73) dX9_findBest_27 (by decide) (fun h27 => ?_) (fun h27 => ?_)
        · rw [bI_eq] at h27
          have hend : fl (mayB sc ar f) (N 4) = fl (mayB sc ar f) i := by
            first | (rw [show i = N 4 by omega]; done) | exact fl_full _ h2 (by omega)
          exact K73 js2 tau2 (by rw [hend]; exact h0) (by rw [hend]; exact h40)
        · rw [bI_ne] at h27
          refine v_aload_n dX9_findBest_30 rfl ?_
          refine xg_X9_19 dX9_findBest_31 ?_
          refine v_iload_n dX9_findBest_34 rfl ?_
          refine v_cVr1 hB k_X9_113 (pJx4a65c_get_915e3 (by omega) (by omega) (by omega) (by omega)) (by decide) ⟨by decide, by decide⟩ rfl rfl (Nat.le_of_ble_eq_true rfl) dX9_findBest_35 ?_
          refine v_cast (ci := 8) rfl cl_X9_120 (xW_X7 (by omega)) dX9_findBest_38 ?_
          refine v_astore_n3 dX9_findBest_41 (by decide) ?_
          refine v_aload_n dX9_findBest_42 rfl ?_
          refine v_aload_n dX9_findBest_43 rfl ?_
          refine v_iload_n dX9_findBest_44 rfl ?_
          refine v_cVi2 hB k_X9_159 (pX9_mayBeJoined hI hJ (by omega)) (by decide) ⟨by decide, by decide⟩ rfl rfl (Nat.le_of_ble_eq_true rfl) dX9_findBest_45 ?_
          refine v_if_eq (tgt := 67) dX9_findBest_48 (by decide) (fun h48 => ?_) (fun h48 => ?_)
          · rw [bI_eq] at h48
            refine v_iinc2 (v := 1) dX9_findBest_67 (by decide) (by decide) ?_
            rw [nI_1 i]
            refine v_goto (tgt := 9) dX9_findBest_70 (by decide) ?_
            have hstep : fl (mayB sc ar f) (i + 1) = (if mayB sc ar f i = true ∧ (fl (mayB sc ar f) i).length < 30 then fl (mayB sc ar f) i ++ [i] else fl (mayB sc ar f) i) := rfl
            by_cases hmb : mayB sc ar f i = true
            · rw [if_pos ⟨hmb, by omega⟩] at hstep
              first
                | exact absurd hmb h48
                | (refine ih (i + 1) _ _ _ (by omega) (by omega) ?_ ?_
                   · rw [hstep, List.length_append]; rfl
                   · intro q hq
                     rw [hstep] at hq ⊢
                     rw [List.length_append, List.length_singleton] at hq
                     by_cases e : q = (fl (mayB sc ar f) i).length
                     · subst e; rw [getD_end _ rfl]
                       refine ⟨?_, ?_, ?_⟩
                       · rw [putA_n _ _ _ (by decide), putA_n _ _ _ (by decide), putA_s]
                       · rw [putA_n _ _ _ (by decide), putA_s]
                       · rw [putA_s]
                     · rw [getD_app _ rfl (by omega)]
                       obtain ⟨a1, a2, a3⟩ := h40 q (by omega)
                       refine ⟨?_, ?_, ?_⟩
                       · rw [putA_n _ _ _ (by decide), putA_n _ _ _ (by decide), putA_m _ _ _ e]; exact a1
                       · rw [putA_n _ _ _ (by decide), putA_m _ _ _ e, putA_n _ _ _ (by decide)]; exact a2
                       · rw [putA_m _ _ _ e, putA_n _ _ _ (by decide), putA_n _ _ _ (by decide)]; exact a3)
            · rw [if_neg (fun z => hmb z.1)] at hstep
              first
                | exact absurd h48 hmb
                | exact ih (i + 1) js2 tau2 _ (by omega) (by omega) (by rw [hstep]; exact h0) (by rw [hstep]; exact h40)
          · rw [bI_ne] at h48
            refine v_aload_n dX9_findBest_51 rfl ?_
            refine xg_X9_41 dX9_findBest_52 ?_
            refine v_iload_n dX9_findBest_55 rfl ?_
            refine v_aload_n dX9_findBest_56 rfl ?_
            refine xg_X9_140 (by omega) dX9_findBest_57 ?_
            refine v_aload_n dX9_findBest_60 rfl ?_
            refine xg_X9_146 (by omega) dX9_findBest_61 ?_
            refine v_cVv3 hB k_X9_290 (pX4_take h0 (by omega)) (by decide) ⟨by decide, by decide⟩ rfl rfl (Nat.le_of_ble_eq_true rfl) dX9_findBest_64 ?_
            refine v_iinc2 (v := 1) dX9_findBest_67 (by decide) (by decide) ?_
            rw [nI_1 i]
            refine v_goto (tgt := 9) dX9_findBest_70 (by decide) ?_
            have hstep : fl (mayB sc ar f) (i + 1) = (if mayB sc ar f i = true ∧ (fl (mayB sc ar f) i).length < 30 then fl (mayB sc ar f) i ++ [i] else fl (mayB sc ar f) i) := rfl
            by_cases hmb : mayB sc ar f i = true
            · rw [if_pos ⟨hmb, by omega⟩] at hstep
              first
                | exact absurd hmb h48
                | (refine ih (i + 1) _ _ _ (by omega) (by omega) ?_ ?_
                   · rw [hstep, List.length_append]; rfl
                   · intro q hq
                     rw [hstep] at hq ⊢
                     rw [List.length_append, List.length_singleton] at hq
                     by_cases e : q = (fl (mayB sc ar f) i).length
                     · subst e; rw [getD_end _ rfl]
                       refine ⟨?_, ?_, ?_⟩
                       · rw [putA_n _ _ _ (by decide), putA_n _ _ _ (by decide), putA_s]
                       · rw [putA_n _ _ _ (by decide), putA_s]
                       · rw [putA_s]
                     · rw [getD_app _ rfl (by omega)]
                       obtain ⟨a1, a2, a3⟩ := h40 q (by omega)
                       refine ⟨?_, ?_, ?_⟩
                       · rw [putA_n _ _ _ (by decide), putA_n _ _ _ (by decide), putA_m _ _ _ e]; exact a1
                       · rw [putA_n _ _ _ (by decide), putA_m _ _ _ e, putA_n _ _ _ (by decide)]; exact a2
                       · rw [putA_m _ _ _ e, putA_n _ _ _ (by decide), putA_n _ _ _ (by decide)]; exact a3)
            · rw [if_neg (fun z => hmb z.1)] at hstep
              first
                | exact absurd h48 hmb
                | exact ih (i + 1) js2 tau2 _ (by omega) (by omega) (by rw [hstep]; exact h0) (by rw [hstep]; exact h40)
  refine v_aload_n dX9_findBest_0 rfl ?_
  refine xg_X9_41 dX9_findBest_1 ?_
  refine v_cVv0 hB k_X9_285 pX4_clear (by decide) ⟨by decide, by decide⟩ rfl rfl (Nat.le_of_ble_eq_true rfl) dX9_findBest_4 ?_
  refine v_iconst_v (v := 0) dX9_findBest_7 (by decide) ?_
  refine v_istore_n2 dX9_findBest_8 (by decide) ?_
  refine loop1 (N 4 + 1) 0 _ tau none (by omega) (by omega) rfl (fun q hq => absurd hq (Nat.not_lt_zero _))

def xP (cy : Nat → ClassId) (ad : zA) (mo : Nat → Int32) (cp cn al : Nat → Nat) (q3 pa : Nat → Nat → Int32) (pn : Nat → Nat) (S : zRs) : Option Value → zA → zW → Prop := fun r ad2 w2 => r = some (.int S.1) ∧ ad2 = ad ∧ ∃ js2 tau2, w2 = xW cy ad (S.2.1) (S.2.2) tau2 js2 mo cp cn al q3 pa pn
set_option maxHeartbeats 4000000 in
set_option maxRecDepth 100000 in
theorem pX9_could {l : Launch} {D : va_G} {cy : Nat → ClassId} {s0 : State} {ad : zA} {sc : Nat → Int32} {ar tau : Nat → Nat → Int32} {js mo : Nat → Int32} {cp cn al : Nat → Nat} {q3 pa : Nat → Nat → Int32} {pn : Nat → Nat} {N : Nat → Nat} {f : Int32} (hI : MI N sc ar) (hJ : XI N ar cp cn al q3 pa pn) : zM l D cy s0 yX9_could cX9_could 3 (some .int) 8 0 0 [.ref (ad 0 0), .int f] ad (xW cy ad sc ar tau js mo cp cn al q3 pa pn) (xP cy ad mo cp cn al q3 pa pn (v_could f sc ar, sc, ar)) := by
  refine zM_of (own := RX9) rfl (by decide) (by simp [Value.category]) (Nat.le_of_ble_eq_true rfl) ?_
  intro X hB
  show V X RX9 cX9_could 3 (some .int) 0 0 ad (xW cy ad sc ar tau js mo cp cn al q3 pa pn) 0 [some (.ref (ad 0 0)), some (.int f), none] []
  obtain ⟨⟨hN, b2, b3, b4, b5, b6, b7, b8, b9, b10⟩, hS, hQ, hBl, hCh, hZ⟩ := id hI
  obtain ⟨⟨c0, c1, c2, c3, c4, c5⟩, hx, hq3⟩ := id hJ
  have x0 := hx 0 (by decide)
  have x1 := hx 1 (by decide)
  have x2 := hx 2 (by decide)
  have x3 := hx 3 (by decide)
  have x4 := hx 4 (by decide)
  have x5 := hx 5 (by decide)
  refine v_aload_n dX9_could_0 rfl ?_
  refine v_iload_n dX9_could_1 rfl ?_
  refine v_cVi1 hB k_X9_93 pX9_isFamily (by decide) ⟨by decide, by decide⟩ rfl rfl (Nat.le_of_ble_eq_true rfl) dX9_could_2 ?_
  refine v_if_ne (tgt := 10) dX9_could_5 (by decide) (fun h5 => ?_) (fun h5 => ?_)
  · rw [bI_ne] at h5
    have hr : 0 ≤ f ∧ f < sc 2 := by rw [hN 2 (by decide) (by decide), ← c0]; exact h5
    refine v_aload_n dX9_could_10 rfl ?_
    refine v_iload_n dX9_could_11 rfl ?_
    refine v_cVg1 hB k_X9_167 (pX9_findBest hI hJ) ⟨by decide, by decide⟩ ⟨by decide, by decide⟩ rfl rfl (Nat.le_of_ble_eq_true rfl) dX9_could_12 ?_
    rintro rr ad2 w2 ⟨v, rfl, rfl, js3, tau3, rfl, hq⟩
    show V X RX9 cX9_could 3 (some .int) 0 0 ad2 _ 15 _ [_]
    refine v_istore_n2 dX9_could_15 (by decide) ?_
    refine v_iload_n dX9_could_16 rfl ?_
    refine v_if_ne (tgt := 25) dX9_could_17 (by decide) (fun h17 => ?_) (fun h17 => ?_)
    · refine v_iload_n dX9_could_25 rfl ?_
      refine v_iret hB (by decide) (by decide) dX9_could_26 ⟨?_, rfl, js3, tau3, rfl⟩
      rw [show v_could f sc ar = (match bestS sc ar f with | none => -2 | some pl => nI pl.length) from if_pos hr]
      cases hbs : bestS sc ar f with
      | none => rw [hbs] at hq; exact absurd hq h17
      | some pl => rw [hbs] at hq; exact congrArg (fun z => some (Value.int z)) hq.1
    · refine v_bipush_v (v := -2) dX9_could_20 (by decide) ?_
      refine v_goto (tgt := 26) dX9_could_22 (by decide) ?_
      refine v_iret hB (by decide) (by decide) dX9_could_26 ⟨?_, rfl, js3, tau3, rfl⟩
      rw [show v_could f sc ar = (match bestS sc ar f with | none => -2 | some pl => nI pl.length) from if_pos hr]
      cases hbs : bestS sc ar f with
      | none => rw [hbs] at hq
      | some pl => rw [hbs] at hq; exact absurd (hq.1.symm.trans h17) (nI_ne0 (by omega) (by omega))
  · rw [bI_eq] at h5
    refine v_iconst_v (v := -1) dX9_could_8 (by decide) ?_
    exact v_iret hB (by decide) (by decide) dX9_could_9 ⟨by rw [show v_could f sc ar = -1 from if_neg (fun z => h5 (by rw [c0, ← hN 2 (by decide) (by decide)]; exact z))], rfl, js, tau, rfl⟩

