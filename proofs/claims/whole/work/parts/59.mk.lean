theorem MI.ext {N N2 : Nat → Nat} {sc : Nat → Int32} {ar : Nat → Nat → Int32} (h : MI N sc ar) (he : ∀ j, 2 ≤ j → j ≤ 10 → N2 j = N j) : MI N2 sc ar := by
  obtain ⟨⟨hN, b2, b3, b4, b5, b6, b7, b8, b9, b10⟩, hS, hQ, hBl, hCh, hZ⟩ := h
  unfold MI
  rw [he 2 (by decide) (by decide), he 3 (by decide) (by decide), he 4 (by decide) (by decide), he 5 (by decide) (by decide), he 6 (by decide) (by decide), he 7 (by decide) (by decide), he 8 (by decide) (by decide), he 9 (by decide) (by decide), he 10 (by decide) (by decide)]
  exact ⟨⟨fun j h1 h2 => by rw [he j h1 h2]; exact hN j h1 h2, b2, b3, b4, b5, b6, b7, b8, b9, b10⟩, hS, hQ, hBl, hCh, hZ⟩
theorem MIself {N : Nat → Nat} {sc : Nat → Int32} {ar : Nat → Nat → Int32} (h : MI N sc ar) : MI (fun j => cl (sc j)) sc ar := h.ext (fun _ h1 h2 => h.cl h1 h2)
/-- scalars that MI doesn't read, rows that it doesn't read -/
theorem MI.sc {N : Nat → Nat} {sc sc2 : Nat → Int32} {ar ar2 : Nat → Nat → Int32} (h : MI N sc ar) (hs : ∀ j, 2 ≤ j → j ≤ 10 → sc2 j = sc j) (ha : ∀ j, j = 12 ∨ j = 13 ∨ j = 14 ∨ (18 ≤ j ∧ j ≤ 25) ∨ j = 28 ∨ j = 29 ∨ j = 30 ∨ j = 34 ∨ j = 37 → ar2 j = ar j) : MI N sc2 ar2 := by
  obtain ⟨⟨hN, b⟩, hS, hQ, hBl, hCh, hZ⟩ := h
  unfold MI
  rw [ha 12 (by decide), ha 13 (by decide), ha 14 (by decide), ha 18 (by decide), ha 19 (by decide), ha 20 (by decide), ha 21 (by decide), ha 22 (by decide), ha 23 (by decide), ha 24 (by decide), ha 25 (by decide), ha 28 (by decide), ha 29 (by decide), ha 30 (by decide), ha 34 (by decide), ha 37 (by decide)]
  exact ⟨⟨fun j h1 h2 => by rw [hs j h1 h2]; exact hN j h1 h2, b⟩, hS, hQ, hBl, hCh, hZ⟩
theorem MI.tr {N : Nat → Nat} {sc : Nat → Int32} {ar : Nat → Nat → Int32} (h : MI N sc ar) (x : Int32) : MI N (upd sc 1 x) ar := h.sc (fun j h1 h2 => pk_un (by omega)) (fun _ _ => rfl)
theorem MI.th {N : Nat → Nat} {sc : Nat → Int32} {ar : Nat → Nat → Int32} (h : MI N sc ar) (x : Int32) : MI N (upd sc 0 x) ar := h.sc (fun j h1 h2 => pk_un (by omega)) (fun _ _ => rfl)
theorem bump {N : Nat → Nat} {sc : Nat → Int32} (hN : ∀ j, 2 ≤ j → j ≤ 10 → sc j = nI (N j)) {j0 : Nat} (h0 : 2 ≤ j0) (h1 : j0 ≤ 10) : ∀ j, 2 ≤ j → j ≤ 10 → upd (upd sc j0 (sc j0 + 1)) 1 0 j = nI (uN N j0 (N j0 + 1) j) := fun j q1 q2 => by
  rw [pk_un (by omega)]
  by_cases e : j = j0
  · subst e; rw [pk_us, uN_s, hN j h0 h1, nI_1]
  · rw [pk_un e, uN_n _ _ e]; exact hN j q1 q2
abbrev mOK (S : zRs) : Prop := ∃ N2, MI N2 S.2.1 S.2.2
theorem mk_family {N : Nat → Nat} {sc : Nat → Int32} {ar : Nat → Nat → Int32} (a : Int32) (hI : MI N sc ar) : mOK (s_family a sc ar) := by
  obtain ⟨⟨hN, b2, b3, b4, b5, b6, b7, b8, b9, b10⟩, hS, hQ, hBl, hCh, hZ⟩ := id hI
  unfold mOK s_family
  split
  · split
    · exact ⟨N, hI.tr 3⟩
    · rename_i h8
      have hlt : N 2 ≠ 8 := fun z => h8 (by rw [hN 2 (by decide) (by decide), z]; rfl)
      refine ⟨uN N 2 (N 2 + 1), ?_⟩
      show MI _ (upd (upd sc 2 (sc 2 + 1)) 1 0) (putA ar 11 (cl (sc 2)) a)
      unfold MI
      refine ⟨⟨bump hN (by decide) (by decide), ?_⟩, ?_⟩
      · rw [uN_s, uN_n N (k := 2) (i := 3) _ (by decide), uN_n N (k := 2) (i := 4) _ (by decide), uN_n N (k := 2) (i := 5) _ (by decide), uN_n N (k := 2) (i := 6) _ (by decide), uN_n N (k := 2) (i := 7) _ (by decide), uN_n N (k := 2) (i := 8) _ (by decide), uN_n N (k := 2) (i := 9) _ (by decide), uN_n N (k := 2) (i := 10) _ (by decide)]; exact ⟨by omega, b3, b4, b5, b6, b7, b8, b9, b10⟩
      · rw [uN_s, uN_n N (k := 2) (i := 3) _ (by decide), uN_n N (k := 2) (i := 4) _ (by decide), uN_n N (k := 2) (i := 5) _ (by decide), uN_n N (k := 2) (i := 6) _ (by decide), uN_n N (k := 2) (i := 7) _ (by decide), uN_n N (k := 2) (i := 8) _ (by decide)]
        refine ⟨fun i hi => ?_, fun q hq => ?_, hBl, hCh, fun f hf => hZ f (by omega)⟩
        · obtain ⟨⟨f, f1, f2⟩, r⟩ := hS i hi
          exact ⟨⟨f, by omega, f2⟩, r⟩
        · obtain ⟨⟨f, f1, f2⟩, r⟩ := hQ q hq
          exact ⟨⟨f, by omega, f2⟩, r⟩
  · exact ⟨N, hI.tr 2⟩
theorem mk_garden {N : Nat → Nat} {sc : Nat → Int32} {ar : Nat → Nat → Int32} (a : Int32) (hI : MI N sc ar) : mOK (s_garden a sc ar) := by
  obtain ⟨⟨hN, b2, b3, b4, b5, b6, b7, b8, b9, b10⟩, hS, hQ, hBl, hCh, hZ⟩ := id hI
  unfold mOK s_garden
  split
  · split
    · exact ⟨N, hI.tr 3⟩
    · rename_i h8
      have hlt : N 3 ≠ 12 := fun z => h8 (by rw [hN 3 (by decide) (by decide), z]; rfl)
      refine ⟨uN N 3 (N 3 + 1), ?_⟩
      show MI _ (upd (upd sc 3 (sc 3 + 1)) 1 0) (putA ar 15 (cl (sc 3)) a)
      unfold MI
      refine ⟨⟨bump hN (by decide) (by decide), ?_⟩, ?_⟩
      · rw [uN_n N (k := 3) (i := 2) _ (by decide), uN_s, uN_n N (k := 3) (i := 4) _ (by decide), uN_n N (k := 3) (i := 5) _ (by decide), uN_n N (k := 3) (i := 6) _ (by decide), uN_n N (k := 3) (i := 7) _ (by decide), uN_n N (k := 3) (i := 8) _ (by decide), uN_n N (k := 3) (i := 9) _ (by decide), uN_n N (k := 3) (i := 10) _ (by decide)]; exact ⟨b2, by omega, b4, b5, b6, b7, b8, b9, b10⟩
      · rw [uN_n N (k := 3) (i := 2) _ (by decide), uN_s, uN_n N (k := 3) (i := 4) _ (by decide), uN_n N (k := 3) (i := 5) _ (by decide), uN_n N (k := 3) (i := 6) _ (by decide), uN_n N (k := 3) (i := 7) _ (by decide), uN_n N (k := 3) (i := 8) _ (by decide)]
        refine ⟨fun i hi => ?_, hQ, hBl, hCh, hZ⟩
        obtain ⟨g0, ⟨f, f1, f2⟩, r⟩ := hS i hi
        exact ⟨g0, ⟨f, by omega, f2⟩, r⟩
  · exact ⟨N, hI.tr 1⟩
theorem mk_set {N : Nat → Nat} {sc : Nat → Int32} {ar : Nat → Nat → Int32} (a b : Int32) (hI : MI N sc ar) : mOK (s_set a b sc ar) := by
  obtain ⟨⟨hN, b2, b3, b4, b5, b6, b7, b8, b9, b10⟩, hS, hQ, hBl, hCh, hZ⟩ := id hI
  unfold mOK s_set
  split
  · rename_i h
    obtain ⟨n, n1, n2, rfl⟩ := i_rg (lo := 10) (hi := 99) h.1 (by decide) (by decide)
    obtain ⟨m, m1, m2, rfl⟩ := i_rg (lo := 0) (hi := 9) h.2 (by decide) (by decide)
    refine ⟨uN (uN N 9 n) 10 m, ?_⟩
    show MI _ (upd (upd (upd sc 9 (nI n)) 10 (nI m)) 1 0) ar
    unfold MI
    refine ⟨⟨fun j h1 h2 => ?_, ?_⟩, ?_⟩
    · rw [pk_un (by omega)]
      by_cases e10 : j = 10
      · subst e10; rw [pk_us, uN_s]
      · rw [pk_un e10, uN_n _ _ e10]
        by_cases e9 : j = 9
        · subst e9; rw [pk_us, uN_s]
        · rw [pk_un e9, uN_n _ _ e9]; exact hN j h1 h2
    · refine ⟨b2, b3, b4, b5, b6, b7, b8, ?_, ?_⟩
      · rw [uN_n _ _ (by decide), uN_s]; exact ⟨n1, n2⟩
      · rw [uN_s]; exact m2
    · exact ⟨hS, hQ, hBl, hCh, hZ⟩
  · exact ⟨N, hI.tr 2⟩
theorem mk_price {N : Nat → Nat} {sc : Nat → Int32} {ar : Nat → Nat → Int32} (a b : Int32) (hI : MI N sc ar) : mOK (s_price a b sc ar) := by
  unfold mOK s_price
  split
  · split
    · exact ⟨N, hI.sc (fun j h1 h2 => pk_un (by omega)) (fun j hj => putA_n _ _ _ (by omega))⟩
    · exact ⟨N, hI.tr 2⟩
  · exact ⟨N, hI.tr 1⟩
theorem mk_rain {N : Nat → Nat} {sc : Nat → Int32} {ar : Nat → Nat → Int32} (a b : Int32) (hI : MI N sc ar) : mOK (s_rain a b sc ar) := by
  unfold mOK s_rain
  split
  · exact ⟨N, hI.tr 2⟩
  · exact ⟨N, hI.sc (fun j h1 h2 => pk_un (by omega)) (fun j hj => putA_n _ _ _ (by omega))⟩
theorem mk_cut {N : Nat → Nat} {sc : Nat → Int32} {ar : Nat → Nat → Int32} (f g L wd t : Int32) (hI : MI N sc ar) : mOK (s_cut f g L wd t sc ar) := by
  obtain ⟨⟨hN, b2, b3, b4, b5, b6, b7, b8, b9, b10⟩, hS, hQ, hBl, hCh, hZ⟩ := id hI
  unfold mOK s_cut
  split
  · rename_i hfg
    split
    · rename_i hr
      split
      · split
        · exact ⟨N, hI.tr 3⟩
        · rename_i h8
          have hlt : N 4 ≠ 200 := fun z => h8 (by rw [hN 4 (by decide) (by decide), z]; rfl)
          obtain ⟨fN, f1, rfl⟩ := i_ix (by have := hfg.1; rw [hN 2 (by decide) (by decide)] at this; exact this) (by omega)
          obtain ⟨gN, g1, rfl⟩ := i_ix (by have := hfg.2; rw [hN 3 (by decide) (by decide)] at this; exact this) (by omega)
          obtain ⟨ln, l1, l2, rfl⟩ := i_rg (lo := 1) (hi := 60) hr.1 (by decide) (by decide)
          obtain ⟨w, w1, w2, rfl⟩ := i_rg (lo := 1) (hi := 9) hr.2.1 (by decide) (by decide)
          obtain ⟨tn, t1, t2, rfl⟩ := i_rg (lo := 0) (hi := 9) hr.2.2 (by decide) (by decide)
          have e4 : cl (sc 4) = N 4 := hI.cl (by decide) (by decide)
          refine ⟨uN N 4 (N 4 + 1), ?_⟩
          rw [e4]
          show MI _ (upd (upd sc 4 (sc 4 + 1)) 1 0) (putA (putA (putA (putA (putA (putA (putA ar 18 (N 4) (nI fN)) 19 (N 4) (nI gN)) 20 (N 4) (nI ln)) 21 (N 4) (nI w)) 22 (N 4) (nI tn)) 23 (N 4) (sc 8)) 24 (N 4) (-2))
          generalize hA : putA (putA (putA (putA (putA (putA (putA ar 18 (N 4) (nI fN)) 19 (N 4) (nI gN)) 20 (N 4) (nI ln)) 21 (N 4) (nI w)) 22 (N 4) (nI tn)) 23 (N 4) (sc 8)) 24 (N 4) (-2) = A
          have hrow : ∀ j, j < 18 ∨ 24 < j → A j = ar j := fun j hj => by
            rw [← hA, putA_n _ _ _ (by omega), putA_n _ _ _ (by omega), putA_n _ _ _ (by omega), putA_n _ _ _ (by omega), putA_n _ _ _ (by omega), putA_n _ _ _ (by omega), putA_n _ _ _ (by omega)]
          have hold : ∀ j i, i ≠ N 4 → A j i = ar j i := fun j i e => by
            rw [← hA, putA_i _ _ _ _ e, putA_i _ _ _ _ e, putA_i _ _ _ _ e, putA_i _ _ _ _ e, putA_i _ _ _ _ e, putA_i _ _ _ _ e, putA_i _ _ _ _ e]
          have hnew : A 18 (N 4) = nI fN ∧ A 19 (N 4) = nI gN ∧ A 20 (N 4) = nI ln ∧ A 21 (N 4) = nI w ∧ A 22 (N 4) = nI tn ∧ A 23 (N 4) = sc 8 ∧ A 24 (N 4) = -2 := by
            rw [← hA]; refine ⟨?_, ?_, ?_, ?_, ?_, ?_, ?_⟩ <;> simp [putA, upA, upd]
          obtain ⟨n18, n19, n20, n21, n22, n23, n24⟩ := hnew
          unfold MI
          refine ⟨⟨bump hN (by decide) (by decide), ?_⟩, ?_⟩
          · rw [uN_n N (k := 4) (i := 2) _ (by decide), uN_n N (k := 4) (i := 3) _ (by decide), uN_s, uN_n N (k := 4) (i := 5) _ (by decide), uN_n N (k := 4) (i := 6) _ (by decide), uN_n N (k := 4) (i := 7) _ (by decide), uN_n N (k := 4) (i := 8) _ (by decide), uN_n N (k := 4) (i := 9) _ (by decide), uN_n N (k := 4) (i := 10) _ (by decide)]; exact ⟨b2, b3, by omega, b5, b6, b7, b8, b9, b10⟩
          · rw [uN_n N (k := 4) (i := 2) _ (by decide), uN_n N (k := 4) (i := 3) _ (by decide), uN_s, uN_n N (k := 4) (i := 5) _ (by decide), uN_n N (k := 4) (i := 6) _ (by decide), uN_n N (k := 4) (i := 7) _ (by decide), uN_n N (k := 4) (i := 8) _ (by decide), hrow 25 (by decide), hrow 28 (by decide), hrow 29 (by decide), hrow 30 (by decide), hrow 34 (by decide), hrow 37 (by decide), hrow 12 (by decide), hrow 13 (by decide), hrow 14 (by decide)]
            refine ⟨fun i hi => ?_, fun q hq => ?_, hBl, hCh, hZ⟩
            · by_cases e : i = N 4
              · rw [e, n18, n19, n20, n21, n22, n23, n24]
                exact ⟨⟨fN, f1, rfl⟩, ⟨gN, g1, rfl⟩, ⟨ln, l1, l2, rfl⟩, ⟨w, w1, w2, rfl⟩, ⟨tn, t2, rfl⟩, ⟨N 8, Nat.le_refl _, hN 8 (by decide) (by decide)⟩, Or.inl rfl⟩
              · rw [hold 18 i e, hold 19 i e, hold 20 i e, hold 21 i e, hold 22 i e, hold 23 i e, hold 24 i e]
                exact hS i (by omega)
            · obtain ⟨q1, ⟨m, m1, m2, m3, m4⟩, q3⟩ := hQ q hq
              exact ⟨q1, ⟨m, m1, m2, m3, fun k hk => by obtain ⟨s, s1, s2⟩ := m4 k hk; exact ⟨s, by omega, s2⟩⟩, q3⟩
      · exact ⟨N, hI.tr 4⟩
    · exact ⟨N, hI.tr 2⟩
  · exact ⟨N, hI.tr 1⟩
theorem itY_row (n : Nat) (ar : Nat → Nat → Int32) {j : Nat} (h1 : j ≠ 12) (h2 : j ≠ 13) : ∀ c, itY n c ar j = ar j
  | 0 => rfl
  | c + 1 => by
    rw [itY]
    have e : begY n (itY n c ar) j = itY n c ar j := by
      funext f; unfold begY; rw [if_neg (fun z => h2 z.1), if_neg (fun z => h1 z.1)]
    rw [e]; exact itY_row n ar h1 h2 c
theorem itY_ge (n : Nat) (ar : Nat → Nat → Int32) (j : Nat) {f : Nat} (h : n ≤ f) : ∀ c, itY n c ar j f = ar j f
  | 0 => rfl
  | c + 1 => by rw [itY, begY_ar h]; exact itY_ge n ar j h c
theorem mk_pass {N : Nat → Nat} {sc : Nat → Int32} {ar : Nat → Nat → Int32} (d : Int32) (hI : MI N sc ar) : mOK (s_pass d sc ar) := by
  obtain ⟨⟨hN, b2, b3, b4, b5, b6, b7, b8, b9, b10⟩, hS, hQ, hBl, hCh, hZ⟩ := id hI
  unfold mOK s_pass
  split
  · rename_i h
    obtain ⟨n, n1, n2, rfl⟩ := i_rg (lo := 1) (hi := 200) h.1 (by decide) (by decide)
    have e8 : sc 8 + nI n = nI (N 8 + n) := by rw [hN 8 (by decide) (by decide), nI_add]
    have hle : N 8 + n ≤ 3000 := by have := h.2; rw [e8] at this; exact (nI_leI (b := 3000) (by omega) (by decide)).mp this
    have e2 : cl (sc 2) = N 2 := hI.cl (by decide) (by decide)
    refine ⟨uN N 8 (N 8 + n), ?_⟩
    rw [e2, e8]
    generalize hA : itY (N 2) _ ar = A
    have hrow : ∀ j, j ≠ 12 → j ≠ 13 → A j = ar j := fun j h1 h2 => by rw [← hA]; exact itY_row _ _ h1 h2 _
    have hge : ∀ j f, N 2 ≤ f → A j f = ar j f := fun j f hf => by rw [← hA]; exact itY_ge _ _ j hf _
    show MI _ (upd (upd sc 8 (nI (N 8 + n))) 1 0) A
    unfold MI
    refine ⟨⟨fun j h1 h2 => ?_, ?_⟩, ?_⟩
    · rw [pk_un (by omega)]
      by_cases e : j = 8
      · subst e; rw [pk_us, uN_s]
      · rw [pk_un e, uN_n _ _ e]; exact hN j h1 h2
    · rw [uN_n N (k := 8) (i := 2) _ (by decide), uN_n N (k := 8) (i := 3) _ (by decide), uN_n N (k := 8) (i := 4) _ (by decide), uN_n N (k := 8) (i := 5) _ (by decide), uN_n N (k := 8) (i := 6) _ (by decide), uN_n N (k := 8) (i := 7) _ (by decide), uN_s, uN_n N (k := 8) (i := 9) _ (by decide), uN_n N (k := 8) (i := 10) _ (by decide)]; exact ⟨b2, b3, b4, b5, b6, b7, hle, b9, b10⟩
    · rw [uN_n N (k := 8) (i := 2) _ (by decide), uN_n N (k := 8) (i := 3) _ (by decide), uN_n N (k := 8) (i := 4) _ (by decide), uN_n N (k := 8) (i := 5) _ (by decide), uN_n N (k := 8) (i := 6) _ (by decide), uN_n N (k := 8) (i := 7) _ (by decide), uN_s, hrow 18 (by decide) (by decide), hrow 19 (by decide) (by decide), hrow 20 (by decide) (by decide), hrow 21 (by decide) (by decide), hrow 22 (by decide) (by decide), hrow 23 (by decide) (by decide), hrow 24 (by decide) (by decide), hrow 25 (by decide) (by decide), hrow 28 (by decide) (by decide), hrow 29 (by decide) (by decide), hrow 30 (by decide) (by decide), hrow 34 (by decide) (by decide), hrow 37 (by decide) (by decide)]
      refine ⟨fun i hi => ?_, hQ, hBl, hCh, fun f hf => ?_⟩
      · obtain ⟨s1, s2, s3, s4, s5, ⟨dd, d1, d2⟩, s7⟩ := hS i hi
        exact ⟨s1, s2, s3, s4, s5, ⟨dd, by omega, d2⟩, s7⟩
      · rw [hge 12 f hf, hge 13 f hf, hge 14 f hf]; exact hZ f hf
  · exact ⟨N, hI.tr 2⟩
theorem chs_len (ln ts : Nat → Nat) (K T n : Nat) : ∀ (r fr L t : Nat) (pre : List Nat) (b : zBest), pre.length + r = n → (∀ t p, b = some (t, p) → p.length = n) → ∀ t2 p, chs ln ts K T r fr L t pre b = some (t2, p) → p.length = n := by
  intro r
  induction r with
  | zero =>
    intro fr L t pre b hp hb t2 p h
    rw [chs] at h
    split at h
    · unfold btr at h
      cases b with
      | none => cases h; omega
      | some q =>
        obtain ⟨u, pl⟩ := q
        simp only [] at h
        split at h
        · cases h; omega
        · cases h; exact hb _ _ rfl
    · exact hb _ _ h
  | succ r ih =>
    intro fr L t pre b hp hb t2 p h
    rw [chs] at h
    have key : ∀ (l : List Nat) (b : zBest), (∀ t p, b = some (t, p) → p.length = n) → ∀ t2 p, l.foldl (fun b i => if T < L + ln i then b else chs ln ts K T r (i + 1) (L + ln i) (t + ts i) (pre ++ [i]) b) b = some (t2, p) → p.length = n := by
      intro l
      induction l with
      | nil => intro b hb t2 p h; exact hb _ _ h
      | cons a l ihl =>
        intro b hb t2 p h
        rw [List.foldl_cons] at h
        refine ihl _ ?_ t2 p h
        intro t3 p3 h3
        split at h3
        · exact hb _ _ h3
        · exact ih _ _ _ _ _ (by rw [List.length_append, List.length_singleton]; omega) hb _ _ h3
    exact key _ b hb t2 p h
theorem fB_len (sc : Nat → Int32) (ar : Nat → Nat → Int32) (f : Int32) (p : List Nat) (h : fBst (bstQ sc ar f) = some p) : 1 ≤ p.length ∧ p.length ≤ 4 := by
  have key : ∀ n t p, bstQ sc ar f n = some (t, p) → p.length = n := fun n t p hc => chs_len _ _ _ _ n n 0 0 0 [] none (Nat.zero_add _) (fun t p z => by cases z) t p hc
  unfold fBst at h
  cases h1 : bstQ sc ar f 1 with
  | some q => rw [h1] at h; cases h; have := key 1 q.1 q.2 h1; omega
  | none =>
    rw [h1] at h
    cases h2 : bstQ sc ar f 2 with
    | some q => rw [h2] at h; cases h; have := key 2 q.1 q.2 h2; omega
    | none =>
      rw [h2] at h
      cases h3 : bstQ sc ar f 3 with
      | some q => rw [h3] at h; cases h; have := key 3 q.1 q.2 h3; omega
      | none =>
        rw [h3] at h
        cases h4 : bstQ sc ar f 4 with
        | some q => rw [h4] at h; cases h; have := key 4 q.1 q.2 h4; omega
        | none => rw [h4] at h; cases h
theorem bestS_ok (sc : Nat → Int32) (ar : Nat → Nat → Int32) (f : Int32) (pl : List Nat) (h : bestS sc ar f = some pl) : 1 ≤ pl.length ∧ pl.length ≤ 4 ∧ ∀ i, i < pl.length → pl.getD i 0 < cl (sc 4) := by
  unfold bestS at h
  cases hf : fBst (bstQ sc ar f) with
  | none => rw [hf] at h; cases h
  | some p =>
    rw [hf] at h
    cases h
    have hl := fB_len sc ar f p hf
    rw [List.length_map]
    refine ⟨hl.1, hl.2, fun i hi => ?_⟩
    have hge : (p.map (cMp sc ar f)).getD i 0 = cMp sc ar f (p.getD i 0) := by
      rw [List.getD_eq_getElem?_getD, List.getD_eq_getElem?_getD, List.getElem?_map, List.getElem?_eq_getElem hi]; rfl
    rw [hge]
    exact (fl_mem _ _ _ (getD_mem (fB_in sc ar f p hf _ (getD_mem hi)))).1
theorem jnA_24 (pl : List Nat) (q : Nat) (A : Nat → Nat → Int32) (x : Nat) : ∀ i, jnA pl q i A 24 x = A 24 x ∨ jnA pl q i A 24 x = nI q
  | 0 => Or.inl rfl
  | i + 1 => by
    rw [jnA]
    by_cases e : x = pl.getD i 0
    · subst e; rw [putA_s]; exact Or.inr rfl
    · rw [putA_m _ _ _ e, putA_n _ _ _ (by decide)]; exact jnA_24 pl q A x i
theorem mk_join {N : Nat → Nat} {sc : Nat → Int32} {ar : Nat → Nat → Int32} (f : Int32) (hI : MI N sc ar) : mOK (s_join f sc ar) := by
  obtain ⟨⟨hN, b2, b3, b4, b5, b6, b7, b8, b9, b10⟩, hS, hQ, hBl, hCh, hZ⟩ := id hI
  unfold mOK s_join
  split
  · rename_i hf
    cases hbs : bestS sc ar f with
    | none => exact ⟨N, hI.tr 5⟩
    | some pl =>
      simp only []
      split
      · exact ⟨N, hI.tr 3⟩
      · rename_i h8
        have hlt : N 5 ≠ 120 := fun z => h8 (by rw [hN 5 (by decide) (by decide), z]; rfl)
        obtain ⟨hl1, hl4, hpl⟩ := bestS_ok sc ar f pl hbs
        rw [hI.cl (j := 4) (by decide) (by decide)] at hpl
        obtain ⟨fN, f1, rfl⟩ := i_ix (by rw [hN 2 (by decide) (by decide)] at hf; exact hf) (by omega)
        rw [hI.cl (j := 5) (by decide) (by decide)]
        refine ⟨uN N 5 (N 5 + 1), ?_⟩
        obtain ⟨q25, q26, q27, q28, q29⟩ := jnB_25 (nI fN) (sc 8) pl (N 5) ar
        have hr : ∀ j, j ≠ 24 → j ≠ 30 → jnA pl (N 5) pl.length (jnB (nI fN) (sc 8) pl (N 5) ar) j = jnB (nI fN) (sc 8) pl (N 5) ar j := fun j h1 h2 => jnA_row _ _ _ h1 h2 _
        have hb : ∀ j, j < 25 ∨ 29 < j → jnB (nI fN) (sc 8) pl (N 5) ar j = ar j := fun j h => jnB_row _ _ _ _ _ h
        have h24 := fun x => jnA_24 pl (N 5) (jnB (nI fN) (sc 8) pl (N 5) ar) x pl.length
        rw [hb 24 (by decide)] at h24
        have hhi := jnA_hi pl (N 5) (jnB (nI fN) (sc 8) pl (N 5) ar) pl.length
        have hlo : ∀ x, x < 4 * N 5 → jnA pl (N 5) pl.length (jnB (nI fN) (sc 8) pl (N 5) ar) 30 x = ar 30 x := fun x hx => by rw [jnA_lo _ _ _ hx, hb 30 (by decide)]
        show MI _ (upd (upd sc 5 (sc 5 + 1)) 1 0) (jnA pl (N 5) pl.length (jnB (nI fN) (sc 8) pl (N 5) ar))
        unfold MI
        refine ⟨⟨bump hN (by decide) (by decide), ?_⟩, ?_⟩
        · rw [uN_n N (k := 5) (i := 2) _ (by decide), uN_n N (k := 5) (i := 3) _ (by decide), uN_n N (k := 5) (i := 4) _ (by decide), uN_s, uN_n N (k := 5) (i := 6) _ (by decide), uN_n N (k := 5) (i := 7) _ (by decide), uN_n N (k := 5) (i := 8) _ (by decide), uN_n N (k := 5) (i := 9) _ (by decide), uN_n N (k := 5) (i := 10) _ (by decide)]; exact ⟨b2, b3, b4, by omega, b6, b7, b8, b9, b10⟩
        · rw [uN_n N (k := 5) (i := 2) _ (by decide), uN_n N (k := 5) (i := 3) _ (by decide), uN_n N (k := 5) (i := 4) _ (by decide), uN_s, uN_n N (k := 5) (i := 6) _ (by decide), uN_n N (k := 5) (i := 7) _ (by decide), uN_n N (k := 5) (i := 8) _ (by decide), hr 12 (by decide) (by decide), hr 13 (by decide) (by decide), hr 14 (by decide) (by decide), hr 18 (by decide) (by decide), hr 19 (by decide) (by decide), hr 20 (by decide) (by decide), hr 21 (by decide) (by decide), hr 22 (by decide) (by decide), hr 23 (by decide) (by decide), hr 25 (by decide) (by decide), hr 28 (by decide) (by decide), hr 29 (by decide) (by decide), hr 34 (by decide) (by decide), hr 37 (by decide) (by decide), hb 12 (by decide), hb 13 (by decide), hb 14 (by decide), hb 18 (by decide), hb 19 (by decide), hb 20 (by decide), hb 21 (by decide), hb 22 (by decide), hb 23 (by decide), hb 34 (by decide), hb 37 (by decide)]
          refine ⟨fun i hi => ?_, fun q hq => ?_, hBl, hCh, hZ⟩
          · obtain ⟨s1, s2, s3, s4, s5, s6, s7⟩ := hS i hi
            refine ⟨s1, s2, s3, s4, s5, s6, ?_⟩
            rcases h24 i with e | e
            · rw [e]
              rcases s7 with s7 | ⟨q, q1, q2⟩
              · exact Or.inl s7
              · exact Or.inr ⟨q, by omega, q2⟩
            · rw [e]; exact Or.inr ⟨N 5, by omega, rfl⟩
          · by_cases e : q = N 5
            · rw [e, q25, q28, q29]
              exact ⟨⟨fN, f1, rfl⟩, ⟨pl.length, hl1, hl4, rfl, fun k hk => ⟨pl.getD k 0, hpl k hk, hhi k hk⟩⟩, Or.inl rfl⟩
            · rw [jnB_q _ _ _ _ _ e, jnB_q _ _ _ _ _ e, jnB_q _ _ _ _ _ e]
              obtain ⟨q1, ⟨m, m1, m2, m3, m4⟩, q3⟩ := hQ q (by omega)
              exact ⟨q1, ⟨m, m1, m2, m3, fun k hk => by rw [hlo _ (by omega)]; exact m4 k hk⟩, q3⟩
  · exact ⟨N, hI.tr 1⟩
theorem chF_6 (ar : Nat → Nat → Int32) (g : Int32) : ∀ k c, chF ar g k c < c + k → ¬ ar 37 (chF ar g k c) = 6
  | 0, c, h => absurd h (by show ¬ c < c + 0; omega)
  | k + 1, c, h => by
    unfold chF at h ⊢
    split
    · rename_i hc
      rw [if_pos hc] at h
      exact chF_6 ar g k (c + 1) (by omega)
    · rename_i hc
      exact fun z => hc (Or.inr z)
theorem bnd_29 (p : Nat → Bool) (n : Nat) (x : Int32) (ar : Nat → Nat → Int32) (q : Nat) : bnd p n x ar 29 q = x ∨ bnd p n x ar 29 q = ar 29 q := by
  unfold bnd; split
  · exact Or.inl rfl
  · exact Or.inr rfl
theorem bA6_z {fN : Nat} {ar : Nat → Nat → Int32} {f : Nat} (h : f ≠ fN) (j : Nat) : bA6 fN ar j f = ar j f := by
  unfold bA6; split
  · rw [putA_i _ _ _ _ h]
  · split
    · rw [putA_i _ _ _ _ h]
    · rfl
theorem mk_bale {N : Nat → Nat} {sc : Nat → Int32} {ar : Nat → Nat → Int32} (f g : Int32) (hI : MI N sc ar) : mOK (s_bale f g sc ar) := by
  obtain ⟨⟨hN, b2, b3, b4, b5, b6, b7, b8, b9, b10⟩, hS, hQ, hBl, hCh, hZ⟩ := id hI
  unfold mOK s_bale
  split
  · rename_i hfg
    split
    · exact ⟨N, hI.tr 5⟩
    · split
      · exact ⟨N, hI.tr 3⟩
      · rename_i hno
        obtain ⟨fN, f1, rfl⟩ := i_ix (by have := hfg.1; rw [hN 2 (by decide) (by decide)] at this; exact this) (by omega)
        obtain ⟨gN, g1, g4, rfl⟩ := i_rg (lo := 1) (hi := 4) hfg.2 (by decide) (by decide)
        have e5 : cl (sc 5) = N 5 := hI.cl (by decide) (by decide)
        have e6 : cl (sc 6) = N 6 := hI.cl (by decide) (by decide)
        have e7 : cl (sc 7) = N 7 := hI.cl (by decide) (by decide)
        rw [e5, e6, e7, cl_nI (n := fN) (by omega), cl_nI (n := gN) (by omega)]
        rw [e7] at hno
        obtain ⟨c, hc⟩ : ∃ c, chF ar (nI gN) (N 7) 0 = c := ⟨_, rfl⟩
        have hcl := chF_le ar (nI gN) (N 7) 0
        have hc6 := chF_6 ar (nI gN) (N 7) 0
        rw [hc] at hcl hno hc6 ⊢
        have h60 : N 6 ≠ 60 := fun z => hno (Or.inl (by rw [hN 6 (by decide) (by decide), z]; rfl))
        have h20 : c ≠ 20 := fun z => hno (Or.inr z)
        obtain ⟨a0, a12, a13, a14, a31, a32, a33, a34, a35, a39, a36, a38, a37⟩ := bAll_r c (N 6) fN gN (nI fN) (nI gN) sc ar
        have hs6 : sc 6 = nI (N 6) := hN 6 (by decide) (by decide)
        have hs7 : sc 7 = nI (N 7) := hN 7 (by decide) (by decide)
        have hn : ∀ j, j ≠ 29 → bnd (gqB ar (nI fN) (nI gN)) (N 5) (sc 6) (bAll c (N 6) fN gN (nI fN) (nI gN) sc ar) j = bAll c (N 6) fN gN (nI fN) (nI gN) sc ar j := fun j h => bnd_n _ _ _ _ h
        have h29 := fun q => bnd_29 (gqB ar (nI fN) (nI gN)) (N 5) (sc 6) (bAll c (N 6) fN gN (nI fN) (nI gN) sc ar) q
        rw [a0 29 (by decide)] at h29
        have hz14 : ∀ x, x ≠ fN → upd (ar 14) fN (ar 14 fN + rkP fN gN ar) x = ar 14 x := fun x hx => pk_un hx
        have hfin : ∀ N7 : Nat, N7 ≤ 20 → c < N7 → N 7 ≤ N7 → (∀ j, 2 ≤ j → j ≤ 10 → bS1 c sc j = nI (uN N 7 N7 j)) → (∀ c2, c2 < N7 → ∃ m, 1 ≤ m ∧ m ≤ 6 ∧ upd (bA1 c (nI gN) sc ar 37) c (bA1 c (nI gN) sc ar 37 c + 1) c2 = nI m) → MI (uN (uN N 7 N7) 6 (N 6 + 1)) (upd (upd (bS1 c sc) 6 (sc 6 + 1)) 1 0) (bnd (gqB ar (nI fN) (nI gN)) (N 5) (sc 6) (bAll c (N 6) fN gN (nI fN) (nI gN) sc ar)) := by
          intro N7 n20 nc n7 hsc hch
          unfold MI
          refine ⟨⟨fun j h1 h2 => ?_, ?_⟩, ?_⟩
          · rw [pk_un (by omega)]
            by_cases e : j = 6
            · subst e; rw [pk_us, uN_s, hs6, nI_1]
            · rw [pk_un e, uN_n _ _ e]; exact hsc j h1 h2
          · exact ⟨by rw [uN_n _ _ (by decide), uN_n _ _ (by decide)]; exact b2, by rw [uN_n _ _ (by decide), uN_n _ _ (by decide)]; exact b3, by rw [uN_n _ _ (by decide), uN_n _ _ (by decide)]; exact b4, by rw [uN_n _ _ (by decide), uN_n _ _ (by decide)]; exact b5, by rw [uN_s]; omega, by rw [uN_n _ _ (by decide), uN_s]; exact n20, by rw [uN_n _ _ (by decide), uN_n _ _ (by decide)]; exact b8, by rw [uN_n _ _ (by decide), uN_n _ _ (by decide)]; exact b9, by rw [uN_n _ _ (by decide), uN_n _ _ (by decide)]; exact b10⟩
          · have u : ∀ j, j ≠ 6 → j ≠ 7 → uN (uN N 7 N7) 6 (N 6 + 1) j = N j := fun j h1 h2 => by rw [uN_n _ _ h1, uN_n _ _ h2]
            rw [u 2 (by decide) (by decide), u 3 (by decide) (by decide), u 4 (by decide) (by decide), u 5 (by decide) (by decide), u 8 (by decide) (by decide), uN_s, uN_n _ _ (show 7 ≠ 6 by decide), uN_s]
            rw [hn 12 (by decide), hn 13 (by decide), hn 14 (by decide), hn 18 (by decide), hn 19 (by decide), hn 20 (by decide), hn 21 (by decide), hn 22 (by decide), hn 23 (by decide), hn 24 (by decide), hn 25 (by decide), hn 28 (by decide), hn 30 (by decide), hn 34 (by decide), hn 37 (by decide), a0 18 (by decide), a0 19 (by decide), a0 20 (by decide), a0 21 (by decide), a0 22 (by decide), a0 23 (by decide), a0 24 (by decide), a0 25 (by decide), a0 28 (by decide), a0 30 (by decide), a12, a13, a14, a34, a37]
            refine ⟨hS, fun q hq => ?_, fun b hb => ?_, hch, fun x hx => ?_⟩
            · obtain ⟨q1, q2, q3⟩ := hQ q hq
              refine ⟨q1, q2, ?_⟩
              rcases h29 q with e | e
              · rw [e, hs6]; exact Or.inr ⟨N 6, by omega, rfl⟩
              · rw [e]
                rcases q3 with q3 | ⟨b, b1, b2⟩
                · exact Or.inl q3
                · exact Or.inr ⟨b, by omega, b2⟩
            · by_cases e : b = N 6
              · rw [e, pk_us]; exact ⟨c, nc, rfl⟩
              · rw [pk_un e]
                obtain ⟨c2, d1, d2⟩ := hBl b (by omega)
                exact ⟨c2, by omega, d2⟩
            · rw [bA6_z (by omega), bA6_z (by omega), hz14 x (by omega)]; exact hZ x hx
        by_cases hc7 : nI c = sc 7
        · have ec : c = N 7 := (nI_eq (by omega) (by omega)).mp (by rw [hs7] at hc7; exact hc7)
          refine ⟨_, hfin (N 7 + 1) (by omega) (by omega) (by omega) (fun j h1 h2 => ?_) (fun c2 h2 => ?_)⟩
          · rw [show bS1 c sc = upd sc 7 (sc 7 + 1) from if_pos hc7]
            by_cases e : j = 7
            · subst e; rw [pk_us, uN_s, hs7, nI_1]
            · rw [pk_un e, uN_n _ _ e]; exact hN j h1 h2
          · have e37 : bA1 c (nI gN) sc ar 37 = upd (ar 37) c 0 := by
              unfold bA1; rw [if_pos hc7, putA_n _ _ _ (by decide), putA_r, putA_n _ _ _ (by decide)]
            rw [e37, pk_us, upd_upd]
            by_cases e : c2 = c
            · rw [e, pk_us]; exact ⟨1, by decide, by decide, rfl⟩
            · rw [pk_un e]; exact hCh c2 (by omega)
        · have ec : c ≠ N 7 := fun z => hc7 (by rw [z, hs7])
          refine ⟨_, hfin (N 7) b7 (by omega) (Nat.le_refl _) (fun j h1 h2 => ?_) (fun c2 h2 => ?_)⟩
          · rw [show bS1 c sc = sc from if_neg hc7]
            by_cases e : j = 7
            · subst e; rw [uN_s]; exact hs7
            · rw [uN_n _ _ e]; exact hN j h1 h2
          · rw [show bA1 c (nI gN) sc ar = ar from if_neg hc7]
            by_cases e : c2 = c
            · rw [e, pk_us]
              obtain ⟨m, m1, m2, m3⟩ := hCh c (by omega)
              have h6 := hc6 (by omega)
              have hm6 : m ≠ 6 := fun z => h6 (by rw [m3, z]; rfl)
              rw [m3, nI_1]; exact ⟨m + 1, by omega, by omega, rfl⟩
            · rw [pk_un e]; exact hCh c2 (by omega)
  · exact ⟨N, hI.tr 1⟩
