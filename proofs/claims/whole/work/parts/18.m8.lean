/-- the first 30 below n that p has -/
def fl (p : Nat → Bool) : Nat → List Nat
  | 0 => []
  | n + 1 => if p n = true ∧ (fl p n).length < 30 then fl p n ++ [n] else fl p n
theorem fl_len (p : Nat → Bool) : ∀ n, (fl p n).length ≤ 30 ∧ (fl p n).length ≤ n
  | 0 => ⟨Nat.zero_le _, Nat.zero_le _⟩
  | n + 1 => by
    have h := fl_len p n
    unfold fl
    split
    · rename_i h2; rw [List.length_append, List.length_singleton]; omega
    · omega
theorem fl_mem (p : Nat → Bool) : ∀ n x, x ∈ fl p n → x < n ∧ p x = true
  | 0, x, h => by cases h
  | n + 1, x, h => by
    unfold fl at h
    split at h
    · rename_i h2
      rcases List.mem_append.mp h with h3 | h3
      · have := fl_mem p n x h3; exact ⟨by omega, this.2⟩
      · rw [List.mem_singleton] at h3; subst h3; exact ⟨by omega, h2.1⟩
    · have := fl_mem p n x h; exact ⟨by omega, this.2⟩
theorem fl_full (p : Nat → Bool) : ∀ {m n : Nat}, m ≤ n → 30 ≤ (fl p m).length → fl p n = fl p m := by
  intro m n h h30
  induction n with
  | zero => have : m = 0 := by omega
            subst this; rfl
  | succ n ih =>
    by_cases e : m = n + 1
    · subst e; rfl
    · have h2 := ih (by omega)
      show (if p n = true ∧ (fl p n).length < 30 then fl p n ++ [n] else fl p n) = fl p m
      rw [h2, if_neg (fun z => absurd z.2 (by omega))]
theorem fl_pre (p : Nat → Bool) : ∀ {m n : Nat}, m ≤ n → ∀ i, i < (fl p m).length → (fl p n).getD i 0 = (fl p m).getD i 0 := by
  intro m n h
  induction n with
  | zero => intro i hi; have : m = 0 := by omega
            subst this; rfl
  | succ n ih =>
    intro i hi
    by_cases e : m = n + 1
    · subst e; rfl
    · have h2 := ih (by omega) i hi
      have hl : (fl p m).length ≤ (fl p n).length := by
        clear h2 ih
        have : ∀ a b, a ≤ b → (fl p a).length ≤ (fl p b).length := by
          intro a b hab
          induction b with
          | zero => have : a = 0 := by omega
                    subst this; exact Nat.le_refl _
          | succ b ihb =>
            by_cases e2 : a = b + 1
            · subst e2; exact Nat.le_refl _
            · have h9 := ihb (by omega)
              show _ ≤ (fl p (b + 1)).length
              rw [fl]; split
              · rw [List.length_append]; omega
              · exact h9
        exact this m n (by omega)
      rw [fl]
      split
      · rw [getD_app _ rfl (by omega)]; exact h2
      · exact h2
theorem getD_mem {l : List Nat} {i : Nat} (h : i < l.length) : l.getD i 0 ∈ l := by
  rw [List.getD_eq_getElem?_getD, List.getElem?_eq_getElem h]; exact List.getElem_mem h
def cands (sc : Nat → Int32) (ar : Nat → Nat → Int32) (f : Int32) : List Nat := fl (mayB sc ar f) (cl (sc 4))
def cMp (sc : Nat → Int32) (ar : Nat → Nat → Int32) (f : Int32) (q : Nat) : Nat := (cands sc ar f).getD q 0
def bstQ (sc : Nat → Int32) (ar : Nat → Nat → Int32) (f : Int32) (n : Nat) : zBest := chs (fun q => cl (ar 20 (cMp sc ar f q))) (fun q => cl (ar 22 (cMp sc ar f q))) (cands sc ar f).length (cl (sc 9) + cl (sc 10) * (n - 1)) n 0 0 0 [] none
def fBst (b : Nat → zBest) : Option (List Nat) := match b 1 with
  | some q => some q.2
  | none => match b 2 with
    | some q => some q.2
    | none => match b 3 with
      | some q => some q.2
      | none => match b 4 with
        | some q => some q.2
        | none => none
theorem fBst_some {b : Nat → zBest} {n t : Nat} {p : List Nat} (h1 : 1 ≤ n) (h2 : n ≤ 4) (h3 : ∀ j, 1 ≤ j → j < n → b j = none) (h4 : b n = some (t, p)) : fBst b = some p := by
  rcases (by omega : n = 1 ∨ n = 2 ∨ n = 3 ∨ n = 4) with rfl | rfl | rfl | rfl
  · unfold fBst; rw [h4]
  · unfold fBst; rw [h3 1 (by omega) (by omega), h4]
  · unfold fBst; rw [h3 1 (by omega) (by omega), h3 2 (by omega) (by omega), h4]
  · unfold fBst; rw [h3 1 (by omega) (by omega), h3 2 (by omega) (by omega), h3 3 (by omega) (by omega), h4]
theorem fBst_none {b : Nat → zBest} (h3 : ∀ j, 1 ≤ j → j < 5 → b j = none) : fBst b = none := by
  unfold fBst; rw [h3 1 (by omega) (by omega), h3 2 (by omega) (by omega), h3 3 (by omega) (by omega), h3 4 (by omega) (by omega)]
def bestS (sc : Nat → Int32) (ar : Nat → Nat → Int32) (f : Int32) : Option (List Nat) := (fBst (bstQ sc ar f)).map (List.map (cMp sc ar f))
/-- two states of the reference that differ in its scratch fields alone -/
def SR (sc sc' : Nat → Int32) (ar ar' : Nat → Nat → Int32) : Prop := (∀ j, j ≠ 43 → j ≠ 44 → j ≠ 45 → sc' j = sc j) ∧ ∀ j, j ≠ 40 → j ≠ 41 → j ≠ 42 → j ≠ 46 → ar' j = ar j
theorem SR.refl (sc : Nat → Int32) (ar : Nat → Nat → Int32) : SR sc sc ar ar := ⟨fun _ _ _ _ => rfl, fun _ _ _ _ _ => rfl⟩
theorem SR.trans {s1 s2 s3 : Nat → Int32} {a1 a2 a3 : Nat → Nat → Int32} (h : SR s1 s2 a1 a2) (h2 : SR s2 s3 a2 a3) : SR s1 s3 a1 a3 :=
  ⟨fun j p q r => (h2.1 j p q r).trans (h.1 j p q r), fun j p q r t => (h2.2 j p q r t).trans (h.2 j p q r t)⟩
theorem SR.upd {s1 s2 : Nat → Int32} {a1 a2 : Nat → Nat → Int32} (h : SR s1 s2 a1 a2) (i : Nat) (x : Int32) : SR (upd s1 i x) (upd s2 i x) a1 a2 := by
  refine ⟨fun j p q r => ?_, h.2⟩
  by_cases e : j = i
  · subst e; rw [pk_us, pk_us]
  · rw [pk_un e, pk_un e]; exact h.1 j p q r
theorem SR.put {s1 s2 : Nat → Int32} {a1 a2 : Nat → Nat → Int32} (h : SR s1 s2 a1 a2) {i : Nat} (n : Nat) (x : Int32) (hi : i ≠ 40 ∧ i ≠ 41 ∧ i ≠ 42 ∧ i ≠ 46) : SR s1 s2 (putA a1 i n x) (putA a2 i n x) := by
  refine ⟨h.1, fun j p q r t => ?_⟩
  by_cases e : j = i
  · subst e; unfold putA; rw [upA_s, upA_s, h.2 j p q r t]
  · rw [putA_n _ _ _ e, putA_n _ _ _ e]; exact h.2 j p q r t
theorem MI.keep {N : Nat → Nat} {s1 s2 : Nat → Int32} {a1 a2 : Nat → Nat → Int32} (h : MI N s1 a1) (h2 : SR s1 s2 a1 a2) : MI N s2 a2 := by
  obtain ⟨⟨hN, b⟩, hS, hQ, hBl, hCh, hZ⟩ := h
  have e := fun j (p : j ≠ 40 ∧ j ≠ 41 ∧ j ≠ 42 ∧ j ≠ 46) => h2.2 j p.1 p.2.1 p.2.2.1 p.2.2.2
  refine ⟨⟨fun j q1 q2 => by rw [h2.1 j (by omega) (by omega) (by omega)]; exact hN j q1 q2, b⟩, ?_, ?_, ?_, ?_, ?_⟩
  · rw [e 18 (by decide), e 19 (by decide), e 20 (by decide), e 21 (by decide), e 22 (by decide), e 23 (by decide), e 24 (by decide)]; exact hS
  · rw [e 25 (by decide), e 28 (by decide), e 29 (by decide), e 30 (by decide)]; exact hQ
  · rw [e 34 (by decide)]; exact hBl
  · rw [e 37 (by decide)]; exact hCh
  · rw [e 12 (by decide), e 13 (by decide), e 14 (by decide)]; exact hZ
theorem dryD_keep {s1 s2 : Nat → Int32} {a1 a2 : Nat → Nat → Int32} (h2 : SR s1 s2 a1 a2) (i : Nat) : dryD a2 i = dryD a1 i := by
  unfold dryD; rw [h2.2 17 (by decide) (by decide) (by decide) (by decide), h2.2 23 (by decide) (by decide) (by decide) (by decide), h2.2 21 (by decide) (by decide) (by decide) (by decide)]
theorem mayB_keep {s1 s2 : Nat → Int32} {a1 a2 : Nat → Nat → Int32} (h2 : SR s1 s2 a1 a2) (f : Int32) : mayB s2 a2 f = mayB s1 a1 f := by
  funext i
  unfold mayB; rw [dryD_keep h2, h2.2 18 (by decide) (by decide) (by decide) (by decide), h2.2 24 (by decide) (by decide) (by decide) (by decide), h2.1 8 (by decide) (by decide) (by decide)]
def fP (cy : Nat → ClassId) (ad : zA) (N : Nat → Nat) (f : Int32) (sc : Nat → Int32) (ar : Nat → Nat → Int32) : Option Value → zA → zW → Prop := fun r ad2 w2 => r = none ∧ ad2 = ad ∧ ∃ sc' ar', w2 = mW cy ad sc' ar' ∧ SR sc sc' ar ar' ∧ match bestS sc ar f with
  | none => sc' 44 = 0
  | some pl => sc' 44 = nI pl.length ∧ 1 ≤ pl.length ∧ pl.length ≤ 4 ∧ ∀ i, i < pl.length → ar' 42 i = nI (pl.getD i 0) ∧ pl.getD i 0 < N 4
/-- chosen places are places -/
theorem chs_in (ln ts : Nat → Nat) (K T : Nat) : ∀ (r fr L t : Nat) (pre : List Nat) (b : zBest), (∀ x ∈ pre, x < K) → (∀ t p, b = some (t, p) → ∀ x ∈ p, x < K) → ∀ t2 p, chs ln ts K T r fr L t pre b = some (t2, p) → ∀ x ∈ p, x < K := by
  intro r
  induction r with
  | zero =>
    intro fr L t pre b hp hb t2 p h
    rw [chs] at h
    split at h
    · unfold btr at h
      cases b with
      | none => cases h; exact hp
      | some q =>
        obtain ⟨u, pl⟩ := q
        simp only [] at h
        split at h
        · cases h; exact hp
        · cases h; exact hb _ _ rfl
    · exact hb _ _ h
  | succ r ih =>
    intro fr L t pre b hp hb t2 p h
    rw [chs] at h
    have key : ∀ (l : List Nat), (∀ x ∈ l, x < K) → ∀ b : zBest, (∀ t p, b = some (t, p) → ∀ x ∈ p, x < K) → ∀ t2 p, l.foldl (fun b i => if T < L + ln i then b else chs ln ts K T r (i + 1) (L + ln i) (t + ts i) (pre ++ [i]) b) b = some (t2, p) → ∀ x ∈ p, x < K := by
      intro l
      induction l with
      | nil => intro _ b hb t2 p h; exact hb _ _ h
      | cons a l ihl =>
        intro hl b hb t2 p h
        rw [List.foldl_cons] at h
        refine ihl (fun x hx => hl x (List.mem_cons_of_mem _ hx)) _ ?_ t2 p h
        intro t3 p3 h3
        split at h3
        · exact hb _ _ h3
        · refine ih _ _ _ _ _ ?_ hb _ _ h3
          intro x hx
          rcases List.mem_append.mp hx with h4 | h4
          · exact hp x h4
          · rw [List.mem_singleton] at h4; subst h4; exact hl _ List.mem_cons_self
    refine key _ ?_ b hb t2 p h
    intro x hx
    have := List.mem_range'_1.mp hx
    omega

set_option maxHeartbeats 4000000 in
set_option maxRecDepth 100000 in
theorem cM_finds {l : Launch} {D : va_G} {cy : Nat → ClassId} {s0 : State} {ad : zA} {N : Nat → Nat} {sc : Nat → Int32} {ar : Nat → Nat → Int32} {f : Int32} (hI : MI N sc ar) : zM l D cy s0 yX10_finds cX10_finds 3 none 8 0 0 [.ref (ad 30 0), .int f] ad (mW cy ad sc ar) (fP cy ad N f sc ar) := by
  refine zM_of (own := RX10) rfl (by decide) (by simp [Value.category]) (Nat.le_of_ble_eq_true rfl) ?_
  intro X hB
  show V X RX10 cX10_finds 3 none 0 0 ad (mW cy ad sc ar) 0 [some (.ref (ad 30 0)), some (.int f), none] []
  obtain ⟨⟨hN, b2, b3, b4, b5, b6, b7, b8, b9, b10⟩, hS, hQ, hBl, hCh, hZ⟩ := id hI
  have loop2 : ∀ (m n : Nat) (S : Nat → Int32) (A : Nat → Nat → Int32), 5 < n + m → 1 ≤ n → n ≤ 5 → SR sc S ar A → CI (cMp sc ar f) (fun q => cl (ar 20 (cMp sc ar f q))) (fun q => cl (ar 22 (cMp sc ar f q))) (cands sc ar f).length 1 (N 9) (N 10) S A → BR (cMp sc ar f) (n - 1) S A (if n = 1 then none else bstQ sc ar f (n - 1)) → (∀ j, 1 ≤ j → j < n - 1 → bstQ sc ar f j = none) → V X RX10 cX10_finds 3 none 0 0 ad (mW cy ad S A) 69 [some (.ref (ad 30 0)), some (.int f), some (.int (nI n))] [] := by
    intro m
    induction m with
    | zero => intro n S A h1 h2 h3; omega
    | succ m ih =>
      intro n S A h1 h2 h3 hSR hCI hb hno
      have hfin : ((if n = 1 then none else bstQ sc ar f (n - 1)) = none → n = 5) → fP cy ad N f sc ar none ad (mW cy ad S A) := by
        intro hx
        refine ⟨rfl, rfl, S, A, rfl, hSR, ?_⟩
        cases hc : (if n = 1 then none else bstQ sc ar f (n - 1)) with
        | none =>
          rw [hc] at hb
          have h5 := hx hc
          have hn : bestS sc ar f = none := by
            unfold bestS
            rw [fBst_none (fun j q1 q2 => ?_)]; rfl
            by_cases e : j = n - 1
            · rw [if_neg (by omega)] at hc; rw [e]; exact hc
            · exact hno j q1 (by omega)
          rw [hn]; exact hb
        | some q =>
          obtain ⟨t, p⟩ := q
          rw [hc] at hb
          have hn1 : ¬ n = 1 := fun z => by rw [if_pos z] at hc; cases hc
          rw [if_neg hn1] at hc
          obtain ⟨g1, g2, g3, g4, g5⟩ := hb
          have hs : bestS sc ar f = some (p.map (cMp sc ar f)) := by
            unfold bestS
            rw [fBst_some (by omega) (by omega) hno hc]; rfl
          rw [hs]
          refine ⟨by rw [List.length_map, g4]; exact g1, by rw [List.length_map]; omega, by rw [List.length_map]; omega, fun i hi => ?_⟩
          rw [List.length_map] at hi
          have hpi : p.getD i 0 < (cands sc ar f).length := chs_in _ _ _ _ _ _ _ _ _ _ (fun x hx => by cases hx) (fun t p z => by cases z) t p hc _ (getD_mem hi)
          have hge : (p.map (cMp sc ar f)).getD i 0 = cMp sc ar f (p.getD i 0) := by
            rw [List.getD_eq_getElem?_getD, List.getD_eq_getElem?_getD, List.getElem?_map, List.getElem?_eq_getElem hi]; rfl
          rw [hge]
          refine ⟨g5 i (by omega), ?_⟩
          have h9 : cMp sc ar f (p.getD i 0) < cl (sc 4) := (fl_mem _ _ _ (getD_mem hpi)).1
          rw [show cl (sc 4) = N 4 by rw [hN 4 (by decide) (by decide), cl_nI (by omega)]] at h9
          exact h9
      refine v_iload_n dX10_finds_69 rfl ?_
      refine v_iconst_v (v := 4) dX10_finds_70 (by decide) ?_
      refine v_icmp_gt (tgt := 96) dX10_finds_71 (by decide) (fun h71 => ?_) (fun h71 => ?_)
      · have h71 := (n_ltI (a := 4) (by decide) (by omega)).mp h71
        refine v_vret hB (by decide) (by decide) dX10_finds_96 (hfin (fun hx => ?_))
        first | omega | (rw [hx] at hb; exact absurd hb h78)
      · have h71 : ¬ 4 < n := fun z => h71 ((n_ltI (a := 4) (by decide) (by omega)).mpr z)
        refine v_aload_n dX10_finds_74 rfl ?_
        refine mg173 dX10_finds_75 ?_
        refine v_if_ne (tgt := 96) dX10_finds_78 (by decide) (fun h78 => ?_) (fun h78 => ?_)
        · refine v_vret hB (by decide) (by decide) dX10_finds_96 (hfin (fun hx => ?_))
          first | omega | (rw [hx] at hb; exact absurd hb h78)
        · have hcn : (if n = 1 then none else bstQ sc ar f (n - 1)) = none := by
            cases hc : (if n = 1 then none else bstQ sc ar f (n - 1)) with
            | none => rfl
            | some q =>
              rw [hc] at hb
              have hn1 : ¬ n = 1 := fun z => by rw [if_pos z] at hc; cases hc
              rw [hb.1] at h78
              exact absurd h78 (nI_ne0 (by omega) (by omega))
          rw [hcn] at hb
          refine v_aload_n dX10_finds_81 rfl ?_
          refine v_iload_n dX10_finds_82 rfl ?_
          refine v_iconst_v (v := 0) dX10_finds_83 (by decide) ?_
          refine v_iconst_v (v := 0) dX10_finds_84 (by decide) ?_
          refine v_iconst_v (v := 0) dX10_finds_85 (by decide) ?_
          refine v_iconst_v (v := 0) dX10_finds_86 (by decide) ?_
          refine v_cVg5 hB k_X10_176 (cM_choose (K := (cands sc ar f).length) (n := n) (sp := N 9) (lp := N 10) n 0 0 0 0 [] none S A (by omega) (by omega) (by omega) rfl ⟨hCI.1, hCI.2.1, hCI.2.2.1, ⟨h2, by omega⟩, hCI.2.2.2.2⟩ (fun i hi => absurd hi (Nat.not_lt_zero _)) hb (by omega)) ⟨by omega, by omega⟩ ⟨by decide, by decide⟩ rfl rfl (Nat.le_of_ble_eq_true rfl) dX10_finds_87 ?_
          rintro rr ad2 w2 ⟨rfl, rfl, S2, A2, rfl, hCR, hb2⟩
          show V X RX10 cX10_finds 3 none 0 0 ad2 (mW cy ad2 S2 A2) 90 _ []
          refine v_iinc2 (v := 1) dX10_finds_90 (by decide) (by decide) ?_
          rw [nI_1]
          refine v_goto (tgt := 69) dX10_finds_93 (by decide) ?_
          refine ih (n + 1) S2 A2 (by omega) (by omega) (by omega) ?_ ?_ ?_ ?_
          · exact hSR.trans ⟨fun j p q r => hCR.1 j q r, fun j p q r t => hCR.2.1 j q r⟩
          · exact hCI.keep hCR
          · rw [if_neg (by omega), Nat.add_sub_cancel]
            have e : bstQ sc ar f n = chs (fun q => cl (ar 20 (cMp sc ar f q))) (fun q => cl (ar 22 (cMp sc ar f q))) (cands sc ar f).length (N 9 + N 10 * (n - 1)) n 0 0 0 [] none := by
              unfold bstQ
              rw [hN 9 (by decide) (by decide), hN 10 (by decide) (by decide), cl_nI (by omega), cl_nI (by omega)]
            rw [e]; exact hb2
          · intro j q1 q2
            by_cases e : j = n - 1
            · rw [if_neg (by omega)] at hcn; rw [e]; exact hcn
            · exact hno j q1 (by omega)
  have K62 : ∀ (S : Nat → Int32) (A : Nat → Nat → Int32) {z : Option Value}, SR sc S ar A → S 43 = nI (fl (mayB sc ar f) (N 4)).length → (∀ q, q < (fl (mayB sc ar f) (N 4)).length → A 40 q = nI ((fl (mayB sc ar f) (N 4)).getD q 0)) → V X RX10 cX10_finds 3 none 0 0 ad (mW cy ad S A) 62 [some (.ref (ad 30 0)), some (.int f), z] [] := by
    intro S A z hSR h43 h40
    have hln := fl_len (mayB sc ar f) (N 4)
    have ec : cands sc ar f = fl (mayB sc ar f) (N 4) := by unfold cands; rw [hN 4 (by decide) (by decide), cl_nI (by omega)]
    refine v_aload_n dX10_finds_62 rfl ?_
    refine v_iconst_v (v := 0) dX10_finds_63 (by decide) ?_
    refine mp173 dX10_finds_64 ?_
    refine v_iconst_v (v := 1) dX10_finds_67 (by decide) ?_
    refine v_istore_n2 dX10_finds_68 (by decide) ?_
    refine loop2 5 1 _ A (by omega) (by omega) (by omega) ?_ ?_ ?_ ?_
    · exact ⟨fun j p q r => by rw [upd_n q]; exact hSR.1 j p q r, hSR.2⟩
    · refine ⟨⟨by rw [upd_n (by decide), ec]; exact h43, by rw [ec]; omega⟩, ⟨by rw [upd_n (by decide), hSR.1 9 (by decide) (by decide) (by decide)]; exact hN 9 (by decide) (by decide), by omega⟩, ⟨by rw [upd_n (by decide), hSR.1 10 (by decide) (by decide) (by decide)]; exact hN 10 (by decide) (by decide), by omega⟩, ⟨by omega, by omega⟩, fun p hp => ?_⟩
      have hp2 : p < (fl (mayB sc ar f) (N 4)).length := by rw [← ec]; exact hp
      have em : cMp sc ar f p = (fl (mayB sc ar f) (N 4)).getD p 0 := by unfold cMp; rw [ec]
      have hm := (fl_mem _ _ _ (getD_mem hp2)).1
      rw [← em] at hm
      obtain ⟨-, -, ⟨L, l1, l2, l3⟩, -, ⟨t, t1, t2⟩, -⟩ := hS _ hm
      rw [hSR.2 20 (by decide) (by decide) (by decide) (by decide), hSR.2 22 (by decide) (by decide) (by decide) (by decide)]
      refine ⟨by rw [em]; exact h40 p hp2, by omega, ?_, ?_, ?_, ?_⟩
      · show ar 20 (cMp sc ar f p) = nI (cl (ar 20 (cMp sc ar f p)))
        rw [l3, cl_nI (by omega)]
      · show ar 22 (cMp sc ar f p) = nI (cl (ar 22 (cMp sc ar f p)))
        rw [t2, cl_nI (by omega)]
      · show 1 ≤ cl (ar 20 (cMp sc ar f p)) ∧ cl (ar 20 (cMp sc ar f p)) ≤ 60
        rw [l3, cl_nI (by omega)]; exact ⟨l1, l2⟩
      · show cl (ar 22 (cMp sc ar f p)) ≤ 9
        rw [t2, cl_nI (by omega)]; exact t1
    · rw [if_pos rfl]; rfl
    · intro j q1 q2; omega
  have loop1 : ∀ (m i : Nat) (S : Nat → Int32) (A : Nat → Nat → Int32), N 4 < i + m → i ≤ N 4 → SR sc S ar A → S 43 = nI (fl (mayB sc ar f) i).length → (∀ q, q < (fl (mayB sc ar f) i).length → A 40 q = nI ((fl (mayB sc ar f) i).getD q 0)) → V X RX10 cX10_finds 3 none 0 0 ad (mW cy ad S A) 7 [some (.ref (ad 30 0)), some (.int f), some (.int (nI i))] [] := by
    intro m
    induction m with
    | zero => intro i S A h1 h2; omega
    | succ m ih =>
      intro i S A h1 h2 hSR h43 h40
      have hln := fl_len (mayB sc ar f) i
      have e4 : S 4 = nI (N 4) := by rw [hSR.1 4 (by decide) (by decide) (by decide)]; exact hN 4 (by decide) (by decide)
      have hI2 := hI.keep hSR
      refine v_iload_n dX10_finds_7 rfl ?_
      refine v_aload_n dX10_finds_8 rfl ?_
      refine mg129 dX10_finds_9 ?_
      refine v_icmp_ge (tgt := 62) dX10_finds_12 (by decide) (fun h12 => ?_) (fun h12 => ?_)
      · rw [e4, nI_leI (by omega) (by omega)] at h12
        have hend : fl (mayB sc ar f) (N 4) = fl (mayB sc ar f) i := by
          first | (rw [show i = N 4 by omega]; done) | exact fl_full _ h2 h21
        exact K62 S A hSR (by rw [hend]; exact h43) (by rw [hend]; exact h40)
      · rw [e4, nI_leI (by omega) (by omega)] at h12
        refine v_aload_n dX10_finds_15 rfl ?_
        refine mg170 dX10_finds_16 ?_
        refine v_bipush_v (v := 30) dX10_finds_19 (by decide) ?_
        refine v_icmp_ge (tgt := 62) dX10_finds_21 (by decide) (fun h21 => ?_) (fun h21 => ?_)
        · rw [h43] at h21; have h21 := (nI_leI (a := 30) (by decide) (by omega)).mp h21
          have hend : fl (mayB sc ar f) (N 4) = fl (mayB sc ar f) i := by
            first | (rw [show i = N 4 by omega]; done) | exact fl_full _ h2 h21
          exact K62 S A hSR (by rw [hend]; exact h43) (by rw [hend]; exact h40)
        · rw [h43] at h21; have h21 : ¬ 30 ≤ (fl (mayB sc ar f) i).length := fun z => h21 ((nI_leI (a := 30) (by decide) (by omega)).mpr z)
          refine v_aload_n dX10_finds_24 rfl ?_
          refine v_iload_n dX10_finds_25 rfl ?_
          refine v_iload_n dX10_finds_26 rfl ?_
          refine v_cVi2 hB k_X10_166 (cM_mayBe hI2 (by omega)) (by decide) ⟨by decide, by decide⟩ rfl rfl (Nat.le_of_ble_eq_true rfl) dX10_finds_27 ?_
          refine v_if_ne (tgt := 36) dX10_finds_30 (by decide) (fun h30 => ?_) (fun h30 => ?_)
          · rw [bI_ne, mayB_keep hSR] at h30
            refine v_aload_n dX10_finds_36 rfl ?_
            refine mg111 dX10_finds_37 ?_
            refine v_aload_n dX10_finds_40 rfl ?_
            refine mg170 dX10_finds_41 ?_
            refine v_iload_n dX10_finds_44 rfl ?_
            refine m_stN 40 (L := 30) hB.cy ⟨rfl, rfl, rfl⟩ h43 (by omega) (by decide) dX10_finds_45 ?_
            refine v_aload_n dX10_finds_46 rfl ?_
            refine v_dup dX10_finds_47 rfl ?_
            refine mg170 dX10_finds_48 ?_
            refine v_iconst_v (v := 1) dX10_finds_51 (by decide) ?_
            refine v_iadd dX10_finds_52 ?_
            refine v_eq (show S 43 + 1 = nI ((fl (mayB sc ar f) i).length + 1) by rw [h43]; exact nI_add _ 1) ?_
            refine mp170 dX10_finds_53 ?_
            refine v_iinc2 (v := 1) dX10_finds_56 (by decide) (by decide) ?_
            rw [nI_1]
            refine v_goto (tgt := 7) dX10_finds_59 (by decide) ?_
            have hstep : fl (mayB sc ar f) (i + 1) = (if mayB sc ar f i = true ∧ (fl (mayB sc ar f) i).length < 30 then fl (mayB sc ar f) i ++ [i] else fl (mayB sc ar f) i) := rfl
            by_cases hmb : mayB sc ar f i = true
            · rw [if_pos ⟨hmb, by omega⟩] at hstep
              first
                | exact absurd hmb h30
                | (refine ih (i + 1) _ _ (by omega) (by omega) ?_ ?_ ?_
                   · exact ⟨fun j p q r => by rw [upd_n p]; exact hSR.1 j p q r, fun j p q r t => by rw [putA_n _ _ _ p]; exact hSR.2 j p q r t⟩
                   · rw [hstep, List.length_append]; rfl
                   · intro q hq
                     rw [hstep] at hq ⊢
                     rw [List.length_append, List.length_singleton] at hq
                     by_cases e : q = (fl (mayB sc ar f) i).length
                     · subst e; rw [putA_s, getD_end _ rfl]
                     · rw [putA_m _ _ _ e, getD_app _ rfl (by omega)]; exact h40 q (by omega))
            · rw [if_neg (fun z => hmb z.1)] at hstep
              first
                | exact absurd h30 hmb
                | exact ih (i + 1) S A (by omega) (by omega) hSR (by rw [hstep]; exact h43) (by rw [hstep]; exact h40)
          · rw [bI_eq, mayB_keep hSR] at h30
            refine v_goto (tgt := 56) dX10_finds_33 (by decide) ?_
            refine v_iinc2 (v := 1) dX10_finds_56 (by decide) (by decide) ?_
            rw [nI_1]
            refine v_goto (tgt := 7) dX10_finds_59 (by decide) ?_
            have hstep : fl (mayB sc ar f) (i + 1) = (if mayB sc ar f i = true ∧ (fl (mayB sc ar f) i).length < 30 then fl (mayB sc ar f) i ++ [i] else fl (mayB sc ar f) i) := rfl
            by_cases hmb : mayB sc ar f i = true
            · rw [if_pos ⟨hmb, by omega⟩] at hstep
              first
                | exact absurd hmb h30
                | (refine ih (i + 1) _ _ (by omega) (by omega) ?_ ?_ ?_
                   · exact ⟨fun j p q r => by rw [upd_n p]; exact hSR.1 j p q r, fun j p q r t => by rw [putA_n _ _ _ p]; exact hSR.2 j p q r t⟩
                   · rw [hstep, List.length_append]; rfl
                   · intro q hq
                     rw [hstep] at hq ⊢
                     rw [List.length_append, List.length_singleton] at hq
                     by_cases e : q = (fl (mayB sc ar f) i).length
                     · subst e; rw [putA_s, getD_end _ rfl]
                     · rw [putA_m _ _ _ e, getD_app _ rfl (by omega)]; exact h40 q (by omega))
            · rw [if_neg (fun z => hmb z.1)] at hstep
              first
                | exact absurd h30 hmb
                | exact ih (i + 1) S A (by omega) (by omega) hSR (by rw [hstep]; exact h43) (by rw [hstep]; exact h40)
  refine v_aload_n dX10_finds_0 rfl ?_
  refine v_iconst_v (v := 0) dX10_finds_1 (by decide) ?_
  refine mp170 dX10_finds_2 ?_
  refine v_iconst_v (v := 0) dX10_finds_5 (by decide) ?_
  refine v_istore_n2 dX10_finds_6 (by decide) ?_
  refine loop1 (N 4 + 1) 0 _ ar (by omega) (by omega) ⟨fun j p q r => upd_n p, fun j _ _ _ _ => rfl⟩ rfl (fun q hq => absurd hq (Nat.not_lt_zero _))
