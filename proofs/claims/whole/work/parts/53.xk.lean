theorem xW_alloc {cy : Nat → ClassId} {ad : zA} {sc : Nat → Int32} {ar tau : Nat → Nat → Int32} {js mo : Nat → Int32} {cp cn al : Nat → Nat} {q3 pa : Nat → Nat → Int32} {pn : Nat → Nat} {ad2 : zA} {ar2 : Nat → Nat → Int32} {q32 pa2 : Nat → Nat → Int32} {pn2 : Nat → Nat} {k n : Nat} (hk : k < 6) (haln : al k = n) (hcnn : cn k = n) (had : ∀ a b, ¬ (a = 8 + k ∧ b = n) → ¬ (k = 3 ∧ a = 14 ∧ b = n) → ad2 a b = ad a b) (har : ∀ j i, seen al j i → ar2 j i = ar j i) (hq : ∀ i, i < al 3 → (∀ j, q32 j i = q3 j i) ∧ pa2 i = pa i ∧ pn2 i = pn i) (a b : Nat) (x8 : ¬ (a = 8 + k ∧ b = n)) (x14 : ¬ (k = 3 ∧ a = 14 ∧ b = n)) : xW cy ad2 sc ar2 tau js mo cp cn (uN al k (n + 1)) q32 pa2 pn2 a b = xW cy ad sc ar tau js mo cp cn al q3 pa pn a b := by
  by_cases x6 : a = 6 ∧ b = k
  · rw [x6.1, x6.2, xA6, xA6, had 7 k (by omega) (by omega)]
  by_cases x7 : a = 7 ∧ b = k
  · have e : xEl ad2 (8 + k) (cn k) = xEl ad (8 + k) (cn k) := by
      funext j; unfold xEl
      by_cases hj : j < cn k
      · rw [if_pos hj, if_pos hj, had (8 + k) j (by omega) (by omega)]
      · rw [if_neg hj, if_neg hj]
    rw [x7.1, x7.2, xA7, xA7, e]
  exact xW_old hk haln (fun a b _ _ y3 y4 => had a b y3 y4) har (fun _ _ => rfl) (fun _ _ => rfl) (fun _ _ => rfl) (fun i hi => uN_n _ _ hi) (uN_s _ _ _) hq a b x6 x7 x8 x14
theorem jnA_row (pl : List Nat) (q : Nat) (A : Nat → Nat → Int32) {j : Nat} (h1 : j ≠ 24) (h2 : j ≠ 30) : ∀ i, jnA pl q i A j = A j
  | 0 => rfl
  | i + 1 => by rw [jnA, putA_n _ _ _ h1, putA_n _ _ _ h2]; exact jnA_row pl q A h1 h2 i
theorem jnA_lo (pl : List Nat) (q : Nat) (A : Nat → Nat → Int32) {x : Nat} (h : x < 4 * q) : ∀ i, jnA pl q i A 30 x = A 30 x
  | 0 => rfl
  | i + 1 => by rw [jnA, putA_n _ _ _ (by decide), putA_m _ _ _ (by omega)]; exact jnA_lo pl q A h i
theorem jnA_hi (pl : List Nat) (q : Nat) (A : Nat → Nat → Int32) : ∀ i k, k < i → jnA pl q i A 30 (4 * q + k) = nI (pl.getD k 0)
  | 0, k, h => absurd h (Nat.not_lt_zero _)
  | i + 1, k, h => by
    rw [jnA, putA_n _ _ _ (by decide)]
    by_cases e : k = i
    · subst e; rw [putA_s]
    · rw [putA_m _ _ _ (by omega)]; exact jnA_hi pl q A i k (by omega)
theorem jnB_q (f t : Int32) (pl : List Nat) (q : Nat) (ar : Nat → Nat → Int32) {j i : Nat} (h : i ≠ q) : jnB f t pl q ar j i = ar j i := by
  unfold jnB
  rw [putA_i _ _ _ _ h, putA_i _ _ _ _ h, putA_i _ _ _ _ h, putA_i _ _ _ _ h, putA_i _ _ _ _ h]
theorem jnB_row (f t : Int32) (pl : List Nat) (q : Nat) (ar : Nat → Nat → Int32) {j : Nat} (h : j < 25 ∨ 29 < j) : jnB f t pl q ar j = ar j := by
  unfold jnB
  rw [putA_n _ _ _ (by omega), putA_n _ _ _ (by omega), putA_n _ _ _ (by omega), putA_n _ _ _ (by omega), putA_n _ _ _ (by omega)]
theorem jnB_25 (f t : Int32) (pl : List Nat) (q : Nat) (ar : Nat → Nat → Int32) : jnB f t pl q ar 25 q = f ∧ jnB f t pl q ar 26 q = grdL ar pl ∧ jnB f t pl q ar 27 q = t ∧ jnB f t pl q ar 28 q = nI pl.length ∧ jnB f t pl q ar 29 q = -2 := by
  unfold jnB
  refine ⟨?_, ?_, ?_, ?_, ?_⟩ <;> simp [putA, upA, upd]
set_option maxHeartbeats 4000000 in
set_option maxRecDepth 100000 in
theorem pX9_join {l : Launch} {D : va_G} {cy : Nat → ClassId} {s0 : State} {ad : zA} {sc : Nat → Int32} {ar tau : Nat → Nat → Int32} {js mo : Nat → Int32} {cp cn al : Nat → Nat} {q3 pa : Nat → Nat → Int32} {pn : Nat → Nat} {N : Nat → Nat} {f : Int32} (hI : MI N sc ar) (hJ : XI N ar cp cn al q3 pa pn) (hG : zG s0) (hZ : XZ s0 cp ad) : zM l D cy s0 yX9_join cX9_join 5 (some .int) 8 3 330 [.ref (ad 0 0), .int f] ad (xW cy ad sc ar tau js mo cp cn al q3 pa pn) (clP cy ad s0 (s_join f sc ar)) := by
  refine zM_of (own := RX9) rfl (by decide) (by simp [Value.category]) (Nat.le_of_ble_eq_true rfl) ?_
  intro X hB
  show V X RX9 cX9_join 5 (some .int) 0 0 ad (xW cy ad sc ar tau js mo cp cn al q3 pa pn) 0 [some (.ref (ad 0 0)), some (.int f), none, none, none] []
  obtain ⟨⟨hN, b2, b3, b4, b5, b6, b7, b8, b9, b10⟩, hS, hQ, hBl, hCh, hZ0⟩ := id hI
  obtain ⟨⟨c0, c1, c2, c3, c4, c5⟩, hx, hq3⟩ := id hJ
  have x0 := hx 0 (by decide)
  have x1 := hx 1 (by decide)
  have x2 := hx 2 (by decide)
  have x3 := hx 3 (by decide)
  have x4 := hx 4 (by decide)
  have x5 := hx 5 (by decide)
  obtain ⟨n, hn⟩ : ∃ n, N 5 = n := ⟨_, rfl⟩
  have e5 : sc 5 = nI n := by rw [hN 5 (by decide) (by decide), hn]
  refine v_aload_n dX9_join_0 rfl ?_
  refine v_iload_n dX9_join_1 rfl ?_
  refine v_cVi1 hB k_X9_93 pX9_isFamily (by decide) ⟨by decide, by decide⟩ rfl rfl (Nat.le_of_ble_eq_true rfl) dX9_join_2 ?_
  refine v_if_ne (tgt := 14) dX9_join_5 (by decide) (fun h5 => ?_) (fun h5 => ?_)
  · rw [bI_ne] at h5
    have hr : 0 ≤ f ∧ f < sc 2 := by rw [hN 2 (by decide) (by decide), ← c0]; exact h5
    refine v_aload_n dX9_join_14 rfl ?_
    refine v_iload_n dX9_join_15 rfl ?_
    refine v_cVg1 hB k_X9_167 (pX9_findBest hI hJ) ⟨by decide, by decide⟩ ⟨by decide, by decide⟩ rfl rfl (Nat.le_of_ble_eq_true rfl) dX9_join_16 ?_
    rintro rr ad9 w2 ⟨v, rfl, e9, js3, tau3, rfl, hq⟩
    obtain rfl : ad = ad9 := e9.symm
    show V X RX9 cX9_join 5 (some .int) 0 0 ad _ 19 _ [_]
    by_cases hbn : bestS sc ar f = none
    · rw [hbn] at hq
      subst hq
      refine v_istore_n2 dX9_join_19 (by decide) ?_
      refine v_iload_n dX9_join_20 rfl ?_
      refine v_if_ne (tgt := 30) dX9_join_21 (by decide) (fun z => absurd rfl z) (fun _ => ?_)
      refine v_aload_n dX9_join_24 rfl ?_
      refine v_iconst_v (v := 5) dX9_join_25 (by decide) ?_
      refine v_cVi1 hB k_X9_73 pX9_refuse (by decide) ⟨by decide, by decide⟩ rfl rfl (Nat.le_of_ble_eq_true rfl) dX9_join_26 ?_
      exact v_iret hB (by decide) (by decide) dX9_join_29 (clP_same hI hJ hZ (show s_join f sc ar = (-1, upd sc 1 5, ar) by unfold s_join; rw [if_pos hr, hbn]) (fun j h1 h2 => pk_un (by omega)) rfl rfl rfl rfl)
    obtain ⟨pl, hbs⟩ : ∃ pl, bestS sc ar f = some pl := by
      cases hc : bestS sc ar f with
      | none => exact absurd hc hbn
      | some pl => exact ⟨pl, rfl⟩
    rw [hbs] at hq
    obtain ⟨rfl, hl1, hl4, K, hK0, hK30, hpl⟩ := hq
    refine v_istore_n2 dX9_join_19 (by decide) ?_
    refine v_iload_n dX9_join_20 rfl ?_
    refine v_if_ne (tgt := 30) dX9_join_21 (by decide) (fun h21 => ?_) (fun h21 => ?_)
    · refine v_aload_n dX9_join_30 rfl ?_
      refine xg_X9_22 dX9_join_31 ?_
      refine v_cVi0 hB k_X9_77 (pJx4a65c_size_8abf5 (by omega)) (by decide) ⟨by decide, by decide⟩ rfl rfl (Nat.le_of_ble_eq_true rfl) dX9_join_34 ?_
      refine v_bipush_v (v := 120) dX9_join_37 (by decide) ?_
      refine v_icmp_lt (tgt := 48) dX9_join_39 (by decide) (fun h39 => ?_) (fun h39 => ?_)
      · have h39 : n < 120 := by rw [c3, hn] at h39; exact (n_ltI (b := 120) (by omega) (by decide)).mp h39
        refine v_new (kk := 11) (ii := n) (ci := 7) (fs := [.int 0, .int 0, .int 0, .int 0, .null, .int 0, .int 0, .int 0]) hB tyX6 tyX6_ok rfl inX6 cl_X9_170 ins_X6 ini_X6 dfX6 (show xW _ _ _ _ _ _ _ _ _ _ _ _ _ 11 n = none by rw [xA11]; exact if_neg (by omega)) ⟨by decide, by decide⟩ dX9_join_48 (fun ad1 had1 => ?_)
        refine v_dup dX9_join_51 rfl ?_
        refine v_iload_n dX9_join_52 rfl ?_
        refine v_aload_n dX9_join_53 rfl ?_
        rw [← had1 0 0 (by omega)]
        refine v_get (kk := 0) (ii := 0) (ci := 10) (k := 12) rfl inX9 (by decide) f_X9_63 rfl (show zU _ _ _ _ 0 0 = _ by rw [zU_n _ _ (by omega)]; exact xW_X9) rfl dX9_join_54 ?_
        refine v_iload_n dX9_join_57 rfl ?_
        refine v_cIg3 hB k_X9_172 (iX6 (zU_s _ _ _ _) (show zU _ _ _ _ 14 n = none by rw [zU_n _ _ (by omega), xA14]; exact if_neg (by omega)) hl1 hl4) (by decide) ⟨by decide, by decide⟩ (Nat.le_of_ble_eq_true rfl) dX9_join_58 ?_
        rintro r ad2 w2 ⟨rfl, had2, rfl⟩
        show V X RX9 cX9_join 5 (some .int) _ _ ad2 _ 61 _ [_]
        rw [← had2 11 n (by omega), ← had2 0 0 (by omega)]
        have had : ∀ a b, ¬ (a = 11 ∧ b = n) → ¬ (a = 14 ∧ b = n) → ad2 a b = ad a b := fun a b y1 y2 => by rw [had2 a b y2]; exact had1 a b y1
        have har1 : ∀ j i, seen al j i → (jnB f (sc 8) pl n ar) j i = ar j i := fun j i hs => by
          by_cases e : i = n
          · have h25 : j < 25 ∨ 29 < j := by unfold seen at hs; omega
            rw [jnB_row _ _ _ _ _ h25]
          · exact jnB_q _ _ _ _ _ e
        obtain ⟨b25, b26, b27, b28, b29⟩ := jnB_25 f (sc 8) pl n ar
        refine v_w (show _ = xW cy ad2 sc (jnA pl n 0 (jnB f (sc 8) pl n ar)) tau3 js3 mo cp cn (uN al 3 (n + 1)) (fun j q => if q = n then (if j = 3 then 9 else 0) else q3 j q) (upA pa n (fun _ => 0)) (uN pn n pl.length) from ?_) ?_
        · funext a b
          by_cases x11 : a = 11 ∧ b = n
          · rw [x11.1, x11.2, zU_s, xA11, if_pos (by rw [uN_s]; omega)]
            show _ = (some (.inr (7, [.int ((jnB f (sc 8) pl n ar) 25 n), .int ((jnB f (sc 8) pl n ar) 27 n), .int ((jnB f (sc 8) pl n ar) 29 n), .int (if n = n then (if 0 = 3 then 9 else 0) else q3 0 n), .ref (ad2 14 n), .int (if n = n then (if 1 = 3 then 9 else 0) else q3 1 n), .int (if n = n then (if 2 = 3 then 9 else 0) else q3 2 n), .int (if n = n then (if 3 = 3 then 9 else 0) else q3 3 n)])) : Option va_E)
            rw [b25, b27, b29, if_pos rfl, if_pos rfl, if_pos rfl, if_pos rfl]
            rfl
          rw [zU_n _ _ x11]
          by_cases x14 : a = 14 ∧ b = n
          · rw [x14.1, x14.2, zU_s, xA14, if_pos (by rw [uN_s]; omega), uN_s, upA_s]
          rw [zU_n _ _ x14, zU_n _ _ x11]
          refine (xW_alloc (k := 3) (by decide) (by omega) (by omega) (fun a b y1 y2 => had a b y1 (by omega)) har1 (fun i hi => ⟨fun j => if_neg (by omega), upA_n _ _ (by omega), uN_n _ _ (by omega)⟩) a b x11 (by omega)).symm
        refine v_astore_n3 dX9_join_61 (by decide) ?_
        refine v_iconst_v (v := 0) dX9_join_62 (by decide) ?_
        refine v_istore4 dX9_join_63 (by decide) ?_
        have K91 : ∀ (q3i pai : Nat → Nat → Int32), (∀ j q, q ≠ n → q3i j q = q3 j q) → (∀ q, q ≠ n → pai q = pa q) → q3i 0 n = smI (fun k => ar 22 (pl.getD k 0)) pl.length → q3i 1 n = nI pl.length → q3i 2 n = gWd ar pl pl.length → q3i 3 n = gTs ar pl pl.length → (∀ k, k < pl.length → pai n k = nI (pl.getD k 0)) → V X RX9 cX9_join 5 (some .int) (0 + 1 + 1) (0 + 8 + 4) ad2 (xW cy ad2 sc (jnA pl n pl.length (jnB f (sc 8) pl n ar)) tau3 js3 mo cp cn (uN al 3 (n + 1)) q3i pai (uN pn n pl.length)) 91 [some (.ref (ad2 0 0)), some (.int f), some (.int (nI pl.length)), some (.ref (ad2 11 n)), some (.int (nI pl.length))] [] := by
          intro q3i pai g1 g2 g3 g4 g5 g6 g7
          refine v_aload_n dX9_join_91 rfl ?_
          refine xg_X9_22 dX9_join_92 ?_
          refine v_aload_n dX9_join_95 rfl ?_
          have hZ1 : XZ s0 cp ad2 := fun c hc h0 => by rw [had 7 c (by omega) (by omega)]; exact hZ c hc h0
          refine v_cVg1 hB k_X9_86 (pXadd (k := 3) (n := n) (ad := ad2) (ad1 := ad2) (sc := sc) (ar := (jnA pl n pl.length (jnB f (sc 8) pl n ar))) (tau := tau3) (js := js3) (mo := mo) (cp := cp) (cn := cn) (al := al) (q3 := q3) (pa := pa) (pn := pn) (ar2 := (jnA pl n pl.length (jnB f (sc 8) pl n ar))) (q32 := q3i) (pa2 := pai) (pn2 := uN pn n pl.length) hG (by decide) (ci := 7) rfl lw_ca3 (by omega) (by omega) (by omega) (by omega) (by omega) hZ1 (fun _ _ _ _ => rfl) (fun a b y1 y2 => xW_alloc (k := 3) (by decide) (by omega) (by omega) (fun _ _ _ _ => rfl) (fun _ _ _ => rfl) (fun i hi => ⟨fun j => g1 j i (by omega), g2 i (by omega), uN_n _ _ (by omega)⟩) a b y1 y2) (fun ad3 cpx h9 => ?_) (fun _ ad3 cpx => rfl) (fun _ _ _ => rfl) (fun i hi => ⟨fun j => g1 j i (by omega), g2 i (by omega), uN_n _ _ (by omega)⟩) (fun i hi => ?_)) ⟨by decide, by decide⟩ ⟨by decide, by decide⟩ rfl rfl (Nat.le_of_ble_eq_true rfl) dX9_join_96 ?_
          · rw [xA11, xA11, h9 14 n (by omega) (by omega)]
          · rw [xA11, if_pos (by rw [uN_s]; omega)]; exact ⟨_, rfl⟩
          rintro r ad3 w2 ⟨rfl, had3, cpx, hcpx, rfl⟩
          show V X RX9 cX9_join 5 (some .int) _ _ ad3 _ 99 _ [_]
          refine v_pop dX9_join_99 rfl ?_
          rw [← had3 0 0 (by omega) (by omega)]
          refine v_aload_n dX9_join_100 rfl ?_
          refine v_aload_n dX9_join_101 rfl ?_
          refine xg_X9_22 dX9_join_102 ?_
          refine v_cVi0 hB k_X9_77 (pJx4a65c_size_8abf5 (by omega)) (by decide) ⟨by decide, by decide⟩ rfl rfl (Nat.le_of_ble_eq_true rfl) dX9_join_105 ?_
          refine v_iconst_v (v := 1) dX9_join_108 (by decide) ?_
          refine v_isub dX9_join_109 ?_
          refine v_eq (show nI (uN cn 3 (n + 1) 3) - 1 = nI n by rw [uN_s]; exact nI_pred n) ?_
          refine v_cVi1 hB k_X9_90 pX9_accept (by decide) ⟨by decide, by decide⟩ rfl rfl (Nat.le_of_ble_eq_true rfl) dX9_join_110 ?_
          have hS : s_join f sc ar = (nI n, upd (upd sc 5 (nI (n + 1))) 1 0, (jnA pl n pl.length (jnB f (sc 8) pl n ar))) := by
            unfold s_join; rw [if_pos hr, hbs]
            simp only []
            rw [if_neg (by rw [e5]; exact fun z => absurd ((nI_eq (b := 120) (by omega) (by decide)).mp z) (by omega)), e5, cl_nI (by omega), nI_1]
          rw [hS] at hB
          refine v_iret hB (by decide) (by decide) dX9_join_113 ⟨rfl, by rw [had3 0 0 (by omega) (by omega)]; exact had 0 0 (by omega) (by omega), tau3, js3, upd mo 3 (mo 3 + 1), uN cp 3 cpx, uN cn 3 (n + 1), uN al 3 (n + 1), q3i, pai, uN pn n pl.length, ?_, ⟨?_, ?_, ?_⟩, ?_⟩
          · exact xW_seen (by refine ⟨?_, ?_, ?_, ?_⟩ <;> simp [upd]) (fun _ _ _ => rfl)
          · have ecl : ∀ j, 2 ≤ j → j ≤ 7 → j ≠ 5 → cl (upd (upd sc 5 (nI (n + 1))) 1 0 j) = N j := fun j h1 h2 h3 => by rw [pk_un (by omega), pk_un h3]; exact hI.cl h1 (by omega)
            have ecl5 : cl (upd (upd sc 5 (nI (n + 1))) 1 0 5) = n + 1 := by rw [pk_un (by omega), pk_us, cl_nI (by omega)]
            show (uN cn 3 (n + 1) 0 = cl (upd (upd sc 5 (nI (n + 1))) 1 0 2) ∧ uN cn 3 (n + 1) 1 = cl (upd (upd sc 5 (nI (n + 1))) 1 0 3) ∧ uN cn 3 (n + 1) 2 = cl (upd (upd sc 5 (nI (n + 1))) 1 0 4) ∧ uN cn 3 (n + 1) 3 = cl (upd (upd sc 5 (nI (n + 1))) 1 0 5) ∧ uN cn 3 (n + 1) 4 = cl (upd (upd sc 5 (nI (n + 1))) 1 0 6) ∧ uN cn 3 (n + 1) 5 = cl (upd (upd sc 5 (nI (n + 1))) 1 0 7))
            rw [ecl 2 (by decide) (by decide) (by decide), ecl 3 (by decide) (by decide) (by decide), ecl 4 (by decide) (by decide) (by decide), ecl5, ecl 6 (by decide) (by decide) (by decide), ecl 7 (by decide) (by decide) (by decide)]
            exact ⟨c0, c1, c2, rfl, c4, c5⟩
          · intro c hc
            unfold uN
            by_cases e : c = 3
            · rw [if_pos e, if_pos e, if_pos e]; exact ⟨rfl, hcpx⟩
            · rw [if_neg e, if_neg e, if_neg e]; exact hx c hc
          · show ∀ q, q < cl (upd (upd sc 5 (nI (n + 1))) 1 0 5) → _
            rw [pk_un (by decide), pk_us, cl_nI (by omega)]
            intro q hq2
            show q3i 1 q = (jnA pl n pl.length (jnB f (sc 8) pl n ar)) 28 q ∧ nI (uN pn n pl.length q) = (jnA pl n pl.length (jnB f (sc 8) pl n ar)) 28 q ∧ (1 ≤ uN pn n pl.length q ∧ uN pn n pl.length q ≤ 4) ∧ (∀ k, k < uN pn n pl.length q → pai q k = (jnA pl n pl.length (jnB f (sc 8) pl n ar)) 30 (4 * q + k)) ∧ q3i 0 q = smI (fun k => (jnA pl n pl.length (jnB f (sc 8) pl n ar)) 22 (cl ((jnA pl n pl.length (jnB f (sc 8) pl n ar)) 30 (4 * q + k)))) (uN pn n pl.length q) ∧ grd (q3i 2 q) (q3i 3 q) = (jnA pl n pl.length (jnB f (sc 8) pl n ar)) 26 q
            rw [jnA_row pl n _ (j := 28) (by decide) (by decide), jnA_row pl n _ (j := 26) (by decide) (by decide), jnA_row pl n _ (j := 22) (by decide) (by decide), jnB_row _ _ _ _ _ (j := 22) (by decide)]
            by_cases e : q = n
            · subst e
              rw [uN_s, b28, b26, g3, g4, g5, g6]
              refine ⟨rfl, rfl, ⟨hl1, hl4⟩, fun k hk => by rw [g7 k hk, jnA_hi _ _ _ _ _ hk], smI_congr (fun k hk => ?_), rfl⟩
              obtain ⟨-, -, -, -, hlt⟩ := hpl k hk
              rw [jnA_hi _ _ _ _ _ hk, cl_nI (by omega)]
            · rw [uN_n _ _ e, jnB_q _ _ _ _ _ e, jnB_q _ _ _ _ _ e, g1 1 q e, g1 0 q e, g1 2 q e, g1 3 q e, g2 q e]
              obtain ⟨k1, k2, k3, k4, k5, k6⟩ := hq3 q (by omega)
              have e30 : ∀ k, k < 4 → (jnA pl n pl.length (jnB f (sc 8) pl n ar)) 30 (4 * q + k) = ar 30 (4 * q + k) := fun k hk => by rw [jnA_lo _ _ _ (by omega), jnB_row _ _ _ _ _ (j := 30) (by decide)]
              refine ⟨k1, k2, k3, fun k hk => by rw [e30 k (by omega)]; exact k4 k hk, k5.trans (smI_congr (fun k hk => ?_)), k6⟩
              rw [e30 k (by omega)]
          · intro c hc h0
            by_cases e : c = 3
            · subst e; rw [uN_s] at h0; omega
            · rw [uN_n _ _ e] at h0
              rw [had3 7 c (by omega) (by omega)]; exact hZ1 c hc h0
        have loop : ∀ (m i : Nat) (q3i pai : Nat → Nat → Int32), pl.length < i + m → i ≤ pl.length → (∀ j q, q ≠ n → q3i j q = q3 j q) → (∀ q, q ≠ n → pai q = pa q) → q3i 0 n = smI (fun k => ar 22 (pl.getD k 0)) i → q3i 1 n = nI i → q3i 2 n = gWd ar pl i → q3i 3 n = gTs ar pl i → (∀ k, k < i → pai n k = nI (pl.getD k 0)) → V X RX9 cX9_join 5 (some .int) (0 + 1 + 1) (0 + 8 + 4) ad2 (xW cy ad2 sc (jnA pl n i (jnB f (sc 8) pl n ar)) tau3 js3 mo cp cn (uN al 3 (n + 1)) q3i pai (uN pn n pl.length)) 65 [some (.ref (ad2 0 0)), some (.int f), some (.int (nI pl.length)), some (.ref (ad2 11 n)), some (.int (nI i))] [] := by
          intro m
          induction m with
          | zero => intro i q3i pai h1 h2; omega
          | succ m ih =>
            intro i q3i pai h1 h2 g1 g2 g3 g4 g5 g6 g7
            refine v_iload dX9_join_65 rfl ?_
            refine v_iload_n dX9_join_67 rfl ?_
            refine v_icmp_ge (tgt := 91) dX9_join_68 (by decide) (fun h68 => ?_) (fun h68 => ?_)
            · rw [nI_leI (by omega) (by omega)] at h68
              have ei : i = pl.length := by omega
              subst ei
              exact K91 q3i pai g1 g2 g3 g4 g5 g6 g7
            · rw [nI_leI (by omega) (by omega)] at h68
              obtain ⟨q, hq1, hq2, hq4, hq5⟩ := hpl i (by omega)
              have e21 : (jnA pl n i (jnB f (sc 8) pl n ar)) 21 = ar 21 := by rw [jnA_row pl n _ (j := 21) (by decide) (by decide), jnB_row _ _ _ _ _ (j := 21) (by decide)]
              have e22 : (jnA pl n i (jnB f (sc 8) pl n ar)) 22 = ar 22 := by rw [jnA_row pl n _ (j := 22) (by decide) (by decide), jnB_row _ _ _ _ _ (j := 22) (by decide)]
              refine v_aload_n dX9_join_71 rfl ?_
              refine v_aload_n dX9_join_72 rfl ?_
              refine v_aload_n dX9_join_73 rfl ?_
              refine xg_X9_41 dX9_join_74 ?_
              refine v_iload dX9_join_77 rfl ?_
              refine v_cVi1 hB k_X9_175 (pX4_partOfBest (k := i) (p := q) (K := K) (by omega) hq2 hq1 hK30 hK0) (by decide) ⟨by decide, by decide⟩ rfl rfl (Nat.le_of_ble_eq_true rfl) dX9_join_79 ?_
              refine v_eq hq4 ?_
              refine v_cVv2 hB k_X9_178 (pX9_putInto (n := n) (i := i) (s := pl.getD i 0) (by omega) (by rw [uN_n _ _ (by decide)]; omega) (by omega) (by omega) (by omega) (by rw [uN_s]; omega) g4 (by rw [uN_s]; omega) (by rw [uN_s]; omega)) (by decide) ⟨by decide, by decide⟩ rfl rfl (Nat.le_of_ble_eq_true rfl) dX9_join_82 ?_
              rw [e21, e22]
              refine v_w (xW_seen (ar := (jnA pl n (i + 1) (jnB f (sc 8) pl n ar))) ⟨rfl, rfl, rfl, rfl⟩ (fun j x hs => ?_)) ?_
              · have h30 : j ≠ 30 := by unfold seen at hs; omega
                rw [jnA]
                by_cases e24 : j = 24
                · subst e24
                  by_cases ex : x = pl.getD i 0
                  · rw [ex, putA_s, putA_s]
                  · rw [putA_m _ _ _ ex, putA_m _ _ _ ex, putA_n _ _ _ (by decide)]
                · rw [putA_n _ _ _ e24, putA_n _ _ _ e24, putA_n _ _ _ h30]
              refine v_iinc4 (v := 1) dX9_join_85 (by decide) (by decide) ?_
              rw [nI_1 i]
              refine v_goto (tgt := 65) dX9_join_88 (by decide) ?_
              refine ih (i + 1) _ _ (by omega) (by omega) (fun j q0 hq0 => ?_) (fun q0 hq0 => ?_) ?_ ?_ ?_ ?_ (fun k hk => ?_)
              · rw [putA_i _ _ _ _ hq0, putA_i _ _ _ _ hq0, putA_i _ _ _ _ hq0, putA_i _ _ _ _ hq0]; exact g1 j q0 hq0
              · rw [putA_n _ _ _ hq0]; exact g2 q0 hq0
              · rw [putA_s, g3]; rfl
              · rw [putA_n _ _ _ (by decide), putA_n _ _ _ (by decide), putA_n _ _ _ (by decide), putA_s]
              · rw [putA_n _ _ _ (by decide), putA_n _ _ _ (by decide), putA_s, g5]; rfl
              · rw [putA_n _ _ _ (by decide), putA_s, g6]; rfl
              · by_cases e : k = i
                · subst e; rw [putA_s]
                · rw [putA_m _ _ _ e]; exact g7 k (by omega)
        exact loop (pl.length + 1) 0 _ _ (by omega) (by omega) (fun j q0 hq0 => if_neg hq0) (fun q0 hq0 => upA_n _ _ hq0) (if_pos rfl) (if_pos rfl) (if_pos rfl) (if_pos rfl) (fun k hk => absurd hk (Nat.not_lt_zero _))
      · have h39 : ¬ n < 120 := fun z => h39 (by rw [c3, hn]; exact nI_lt (b := 120) z (by decide))
        refine v_aload_n dX9_join_42 rfl ?_
        refine v_iconst_v (v := 3) dX9_join_43 (by decide) ?_
        refine v_cVi1 hB k_X9_73 pX9_refuse (by decide) ⟨by decide, by decide⟩ rfl rfl (Nat.le_of_ble_eq_true rfl) dX9_join_44 ?_
        exact v_iret hB (by decide) (by decide) dX9_join_47 (clP_same hI hJ hZ (show s_join f sc ar = (-1, upd sc 1 3, ar) by unfold s_join; rw [if_pos hr, hbs]; simp only []; rw [if_pos (by rw [e5, show n = 120 by omega]; rfl)]) (fun j h1 h2 => pk_un (by omega)) rfl rfl rfl rfl)
    · exact absurd h21 (nI_ne0 (by omega) (by omega))
  · rw [bI_eq] at h5
    refine v_aload_n dX9_join_8 rfl ?_
    refine v_iconst_v (v := 1) dX9_join_9 (by decide) ?_
    refine v_cVi1 hB k_X9_73 pX9_refuse (by decide) ⟨by decide, by decide⟩ rfl rfl (Nat.le_of_ble_eq_true rfl) dX9_join_10 ?_
    exact v_iret hB (by decide) (by decide) dX9_join_13 (clP_same hI hJ hZ (show s_join f sc ar = (-1, upd sc 1 1, ar) by unfold s_join; rw [if_neg (fun z => h5 (by rw [c0, ← hN 2 (by decide) (by decide)]; exact z))]) (fun j h1 h2 => pk_un (by omega)) rfl rfl rfl rfl)

