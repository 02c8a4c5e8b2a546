set_option maxHeartbeats 4000000 in
set_option maxRecDepth 100000 in
theorem pX9_bale {l : Launch} {D : va_G} {cy : Nat → ClassId} {s0 : State} {ad : zA} {sc : Nat → Int32} {ar tau : Nat → Nat → Int32} {js mo : Nat → Int32} {cp cn al : Nat → Nat} {q3 pa : Nat → Nat → Int32} {pn : Nat → Nat} {N : Nat → Nat} {f g : Int32} (hI : MI N sc ar) (hJ : XI N ar cp cn al q3 pa pn) (hG : zG s0) (hZ : XZ s0 cp ad) : zM l D cy s0 yX9_bale cX9_bale 5 (some .int) 9 4 640 [.ref (ad 0 0), .int f, .int g] ad (xW cy ad sc ar tau js mo cp cn al q3 pa pn) (clP cy ad s0 (s_bale f g sc ar)) := by
  refine zM_of (own := RX9) rfl (by decide) (by simp [Value.category]) (Nat.le_of_ble_eq_true rfl) ?_
  intro X hB
  show V X RX9 cX9_bale 5 (some .int) 0 0 ad (xW cy ad sc ar tau js mo cp cn al q3 pa pn) 0 [some (.ref (ad 0 0)), some (.int f), some (.int g), none, none] []
  obtain ⟨⟨hN, b2, b3, b4, b5, b6, b7, b8, b9, b10⟩, hS, hQ, hBl, hCh, hZ0⟩ := id hI
  obtain ⟨⟨c0, c1, c2, c3, c4, c5⟩, hx, hq3⟩ := id hJ
  have x0 := hx 0 (by decide)
  have x1 := hx 1 (by decide)
  have x2 := hx 2 (by decide)
  have x3 := hx 3 (by decide)
  have x4 := hx 4 (by decide)
  have x5 := hx 5 (by decide)
  obtain ⟨n, hn⟩ : ∃ n, N 6 = n := ⟨_, rfl⟩
  have e6 : sc 6 = nI n := by rw [hN 6 (by decide) (by decide), hn]
  refine v_aload_n dX9_bale_0 rfl ?_
  refine v_iload_n dX9_bale_1 rfl ?_
  refine v_cVi1 hB k_X9_93 pX9_isFamily (by decide) ⟨by decide, by decide⟩ rfl rfl (Nat.le_of_ble_eq_true rfl) dX9_bale_2 ?_
  refine v_if_eq (tgt := 15) dX9_bale_5 (by decide) (fun h5 => ?_) (fun h5 => ?_)
  · rw [bI_eq] at h5
    refine v_aload_n dX9_bale_15 rfl ?_
    refine v_iconst_v (v := 1) dX9_bale_16 (by decide) ?_
    refine v_cVi1 hB k_X9_73 pX9_refuse (by decide) ⟨by decide, by decide⟩ rfl rfl (Nat.le_of_ble_eq_true rfl) dX9_bale_17 ?_
    exact v_iret hB (by decide) (by decide) dX9_bale_20 (clP_same hI hJ hZ (show s_bale f g sc ar = (-1, upd sc 1 1, ar) by unfold s_bale; rw [if_neg (fun z => by first | exact h5 (by rw [c0, ← hN 2 (by decide) (by decide)]; exact z.1) | exact h12 z.2)]) (fun j h1 h2 => pk_un (by omega)) rfl rfl rfl rfl)
  · rw [bI_ne] at h5
    refine v_iload_n dX9_bale_8 rfl ?_
    refine v_cSi1 hB k_X9_103 pX9_isGrade (by decide) ⟨by decide, by decide⟩ (Nat.le_of_ble_eq_true rfl) dX9_bale_9 ?_
    refine v_if_ne (tgt := 21) dX9_bale_12 (by decide) (fun h12 => ?_) (fun h12 => ?_)
    · rw [bI_ne] at h12
      have hfg : (0 ≤ f ∧ f < sc 2) ∧ (1 ≤ g ∧ g ≤ 4) := ⟨by rw [hN 2 (by decide) (by decide), ← c0]; exact h5, h12⟩
      obtain ⟨fN, hfN, rfl⟩ := i_ix (by rw [c0] at h5; exact h5) (by omega)
      obtain ⟨gN, hg1, hg4, rfl⟩ := i_rg (lo := 1) (hi := 4) h12 (by decide) (by decide)
      have hct := ctN_le (gqB ar (nI fN) (nI gN)) (N 5)
      obtain ⟨c, hc⟩ : ∃ c, chF ar (nI gN) (N 7) 0 = c := ⟨_, rfl⟩
      have hcl := chF_le ar (nI gN) (N 7) 0
      rw [hc] at hcl
      refine v_aload_n dX9_bale_21 rfl ?_
      refine v_iload_n dX9_bale_22 rfl ?_
      refine v_iload_n dX9_bale_23 rfl ?_
      refine v_cVi2 hB k_X9_215 (pX9_looseOf hI hJ) (by decide) ⟨by decide, by decide⟩ rfl rfl (Nat.le_of_ble_eq_true rfl) dX9_bale_24 ?_
      refine v_iconst_v (v := 5) dX9_bale_27 (by decide) ?_
      refine v_icmp_ge (tgt := 37) dX9_bale_28 (by decide) (fun h28 => ?_) (fun h28 => ?_)
      · have h28 : ¬ ctN (gqB ar (nI fN) (nI gN)) (N 5) < 5 := by have := (nI_leI (a := 5) (by decide) (by omega)).mp h28; omega
        refine v_aload_n dX9_bale_37 rfl ?_
        refine v_iload_n dX9_bale_38 rfl ?_
        refine v_cVi1 hB k_X9_218 (pX9_chestFor hI hJ) (by decide) ⟨by decide, by decide⟩ rfl rfl (Nat.le_of_ble_eq_true rfl) dX9_bale_39 ?_
        refine v_eq (show nI (chF ar (nI gN) (N 7) 0) = nI c by rw [hc]) ?_
        refine v_istore_n3 dX9_bale_42 (by decide) ?_
        refine v_aload_n dX9_bale_43 rfl ?_
        refine xg_X9_25 dX9_bale_44 ?_
        refine v_cVi0 hB k_X9_77 (pJx4a65c_size_8abf5 (by omega)) (by decide) ⟨by decide, by decide⟩ rfl rfl (Nat.le_of_ble_eq_true rfl) dX9_bale_47 ?_
        refine v_bipush_v (v := 60) dX9_bale_50 (by decide) ?_
        refine v_icmp_ge (tgt := 61) dX9_bale_52 (by decide) (fun h52 => ?_) (fun h52 => ?_)
        · have h52 : n = 60 := by rw [c4, hn] at h52; have := (nI_leI (a := 60) (by decide) (by omega)).mp h52; omega
          refine v_aload_n dX9_bale_61 rfl ?_
          refine v_iconst_v (v := 3) dX9_bale_62 (by decide) ?_
          refine v_cVi1 hB k_X9_73 pX9_refuse (by decide) ⟨by decide, by decide⟩ rfl rfl (Nat.le_of_ble_eq_true rfl) dX9_bale_63 ?_
          exact v_iret hB (by decide) (by decide) dX9_bale_66 (clP_same hI hJ hZ (show s_bale (nI fN) (nI gN) sc ar = (-1, upd sc 1 3, ar) by unfold s_bale; rw [if_pos hfg, hN 5 (by decide) (by decide), hN 7 (by decide) (by decide), cl_nI (n := N 5) (by omega), cl_nI (n := N 7) (by omega), if_neg h28, hc, if_pos (by first | exact Or.inl (by rw [e6, h52]; rfl) | exact Or.inr (by omega))]) (fun j h1 h2 => pk_un (by omega)) rfl rfl rfl rfl)
        · have h52 : ¬ n = 60 := fun z => h52 (by rw [c4, hn, z]; decide)
          refine v_iload_n dX9_bale_55 rfl ?_
          refine v_bipush_v (v := 20) dX9_bale_56 (by decide) ?_
          refine v_icmp_lt (tgt := 67) dX9_bale_58 (by decide) (fun h58 => ?_) (fun h58 => ?_)
          · have h58 : c < 20 := (n_ltI (b := 20) (by omega) (by decide)).mp h58
            have hno : ¬ (nI n = 60 ∨ c = 20) := fun z => z.elim (fun y => h52 ((nI_eq (b := 60) (by omega) (by decide)).mp y)) (by omega)
            refine v_aload_n dX9_bale_67 rfl ?_
            refine xg_X9_25 dX9_bale_68 ?_
            refine v_cVi0 hB k_X9_77 (pJx4a65c_size_8abf5 (by omega)) (by decide) ⟨by decide, by decide⟩ rfl rfl (Nat.le_of_ble_eq_true rfl) dX9_bale_71 ?_
            refine v_eq (show nI (cn 4) = nI n by rw [c4, hn]) ?_
            refine v_istore4 dX9_bale_74 (by decide) ?_
            refine v_aload_n dX9_bale_76 rfl ?_
            refine v_iload_n dX9_bale_77 rfl ?_
            refine v_iload_n dX9_bale_78 rfl ?_
            refine v_iload dX9_bale_79 rfl ?_
            refine v_cVv3 hB k_X9_221 (pX9_bindQuills hI hJ) (by decide) ⟨by decide, by decide⟩ rfl rfl (Nat.le_of_ble_eq_true rfl) dX9_bale_81 ?_
            refine v_aload_n dX9_bale_84 rfl ?_
            refine xg_X9_25 dX9_bale_85 ?_
            refine v_aload_n dX9_bale_88 rfl ?_
            refine v_iload_n dX9_bale_89 rfl ?_
            refine v_iload_n dX9_bale_90 rfl ?_
            refine v_iload_n dX9_bale_91 rfl ?_
            refine v_cVg3 hB k_X9_224 (pX9_reckon (fN := fN) (gN := gN) (c := c) (n := n) (by omega) (by omega) (by omega) (by omega) (by omega) (by omega) (by omega) (by omega)) ⟨by decide, by decide⟩ ⟨by decide, by decide⟩ rfl rfl (Nat.le_of_ble_eq_true rfl) dX9_bale_92 ?_
            rintro r ad2 w2 ⟨rfl, had2, rfl⟩
            show V X RX9 cX9_bale 5 (some .int) _ _ ad2 _ 95 _ [.ref (ad2 12 n), .ref (ad 6 4)]
            rw [← had2 6 4 (by omega)]
            have hZ1 : XZ s0 cp ad2 := fun k hk h0 => by rw [had2 7 k (by omega)]; exact hZ k hk h0
            refine v_cVg1 hB k_X9_86 (pXadd (k := 4) (n := n) (ad := ad2) (ad1 := ad2) (sc := sc) (ar := (rkA n fN gN c (sc 8) (bnd (gqB ar (nI fN) (nI gN)) (N 5) (nI n) ar))) (tau := tau) (js := js) (mo := mo) (cp := cp) (cn := cn) (al := al) (q3 := q3) (pa := pa) (pn := pn) (ar2 := (rkA n fN gN c (sc 8) (bnd (gqB ar (nI fN) (nI gN)) (N 5) (nI n) ar))) (q32 := q3) (pa2 := pa) (pn2 := pn) hG (by decide) (ci := 1) rfl lw_ca4 (by omega) (by omega) (by omega) (by omega) (by omega) hZ1 (fun _ _ _ _ => rfl) (fun a b y1 y2 => xW_alloc (k := 4) (by decide) (by omega) (by omega) (fun _ _ _ _ => rfl) (fun _ _ _ => rfl) (fun i hi => ⟨fun _ => rfl, rfl, rfl⟩) a b y1 y2) (fun ad3 cpx h9 => by rw [xA12, xA12]) (fun z => absurd z (by decide)) (fun _ _ _ => rfl) (fun i hi => ⟨fun _ => rfl, rfl, rfl⟩) (fun i hi => ?_)) ⟨by decide, by decide⟩ ⟨by decide, by decide⟩ rfl rfl (Nat.le_of_ble_eq_true rfl) dX9_bale_95 ?_
            · rw [xA12, if_pos (by rw [uN_s]; omega)]; exact ⟨_, rfl⟩
            rintro r ad3 w2 ⟨rfl, had3, cpx, hcpx, rfl⟩
            show V X RX9 cX9_bale 5 (some .int) _ _ ad3 _ 98 _ [_]
            refine v_pop dX9_bale_98 rfl ?_
            have e30 : ad3 0 0 = ad 0 0 := by rw [had3 0 0 (by omega) (by omega)]; exact had2 0 0 (by omega)
            rw [← e30]
            have hZ3 : XZ s0 (uN cp 4 cpx) ad3 := fun k hk h0 => by
              by_cases e : k = 4
              · subst e; rw [uN_s] at h0; omega
              · rw [uN_n _ _ e] at h0
                rw [had3 7 k (by omega) (by omega)]; exact hZ1 k hk h0
            have hS : s_bale (nI fN) (nI gN) sc ar = (nI n, upd (upd (bS1 c sc) 6 (nI (n + 1))) 1 0, bnd (gqB ar (nI fN) (nI gN)) (N 5) (nI n) (bAll c n fN gN (nI fN) (nI gN) sc ar)) := by
              unfold s_bale
              rw [if_pos hfg, e6, hN 5 (by decide) (by decide), hN 7 (by decide) (by decide), cl_nI (n := N 5) (by omega), cl_nI (n := N 7) (by omega), if_neg h28, hc, if_neg hno, cl_nI (n := n) (by omega), cl_nI (n := fN) (by omega), cl_nI (n := gN) (by omega), nI_1]
            refine v_aload_n dX9_bale_99 rfl ?_
            refine v_iload_n dX9_bale_100 rfl ?_
            refine v_iload_n dX9_bale_101 rfl ?_
            refine v_iload dX9_bale_102 rfl ?_
            by_cases hc7 : nI c = sc 7
            · have hcN : c = N 7 := (nI_eq (by omega) (by omega)).mp (by rw [hN 7 (by decide) (by decide)] at hc7; exact hc7)
              refine v_cVg3 hB k_X9_228 (pX9_putInChest1 (n := c) hG hZ3 (by rw [uN_n _ _ (by decide)]; omega) (by rw [uN_n _ _ (by decide)]; omega) (by omega) (by rw [uN_n _ _ (by decide), uN_n _ _ (by decide)]; omega) (by rw [uN_n _ _ (by decide)]; omega)) ⟨by decide, by decide⟩ ⟨by decide, by decide⟩ rfl rfl (Nat.le_of_ble_eq_true rfl) dX9_bale_104 ?_
              rintro r ad4 w2 ⟨rfl, had4, cpy, hcpy, rfl⟩
              show V X RX9 cX9_bale 5 (some .int) _ _ ad4 _ 107 _ []
              have e43 : ad4 0 0 = ad3 0 0 := had4 0 0 (by omega) (by omega) (by omega)
              have e40 : ad4 0 0 = ad 0 0 := e43.trans e30
              rw [← e43]
              have hZ4 : XZ s0 (uN (uN cp 4 cpx) 5 cpy) ad4 := fun k hk h0 => by
                by_cases e : k = 5
                · subst e; rw [uN_s] at h0; omega
                · rw [uN_n _ _ e] at h0
                  rw [had4 7 k (by omega) (by omega) (by omega)]; exact hZ3 k hk h0
              refine v_aload_n dX9_bale_107 rfl ?_
              refine v_iload dX9_bale_108 rfl ?_
              refine v_cVi1 hB k_X9_90 pX9_accept (by decide) ⟨by decide, by decide⟩ rfl rfl (Nat.le_of_ble_eq_true rfl) dX9_bale_110 ?_
              rw [hS] at hB
              have hrow : ∀ j, (clB false (gqB ar (nI fN) (nI gN)) (N 5) c n fN gN (sc 8) ar) j = bnd (gqB ar (nI fN) (nI gN)) (N 5) (nI n) (bAll c n fN gN (nI fN) (nI gN) sc ar) j := clB_eq false _ _ _ _ _ _ sc ar ⟨fun z => absurd z (by decide), fun z => absurd hc7 z⟩ e6
              have h26 := fun j (h : j < 12 ∨ (14 < j ∧ j < 29) ∨ j = 30) => (show bnd (gqB ar (nI fN) (nI gN)) (N 5) (nI n) (bAll c n fN gN (nI fN) (nI gN) sc ar) j = ar j by rw [bnd_n _ _ _ _ (by omega), (bAll_r c n fN gN (nI fN) (nI gN) sc ar).1 j (by omega)])
              refine v_iret hB (by decide) (by decide) dX9_bale_113 ⟨rfl, e40, tau, js, upd (upd mo 4 (mo 4 + 1)) 5 ((upd mo 4 (mo 4 + 1)) 5 + 1), uN (uN cp 4 cpx) 5 cpy, uN (uN cn 4 (n + 1)) 5 (c + 1), uN (uN al 4 (n + 1)) 5 (c + 1), q3, pa, pn, ?_, (hJ.add (k := 4) (n := n) (cpx := cpx) (N2 := fun j => if j = 6 then n + 1 else N j) (ar2 := ar) (by decide) (by decide) (by omega) hcpx (fun k hk => by by_cases e : k = 4; (· subst e; rfl); (· rw [if_neg e]; exact if_neg (by omega))) rfl rfl rfl (fun _ _ _ _ => rfl)).add (k := 5) (n := c) (cpx := cpy) (by decide) (by decide) (by rw [uN_n _ _ (by decide)]; omega) hcpy (fun k hk => ?_) (h26 26 (by decide)) (h26 28 (by decide)) (h26 30 (by decide)) (fun q i _ _ => congrFun (h26 22 (by decide)) _), hZ4⟩
              · refine xW_seen ?_ (fun j i hs => (congrFun (hrow j) i))
                show upd sc 1 0 8 = upd (upd (bS1 c sc) 6 (nI (n + 1))) 1 0 8 ∧ upd sc 1 0 9 = upd (upd (bS1 c sc) 6 (nI (n + 1))) 1 0 9 ∧ upd sc 1 0 10 = upd (upd (bS1 c sc) 6 (nI (n + 1))) 1 0 10 ∧ upd sc 1 0 1 = upd (upd (bS1 c sc) 6 (nI (n + 1))) 1 0 1
                unfold bS1
                split <;> refine ⟨?_, ?_, ?_, ?_⟩ <;> simp [upd]
              · show cl (upd (upd (bS1 c sc) 6 (nI (n + 1))) 1 0 (k + 2)) = if k = 5 then c + 1 else (if k + 2 = 6 then n + 1 else N (k + 2))
                rw [pk_un (by omega), show bS1 c sc = upd sc 7 (sc 7 + 1) from if_pos hc7]
                by_cases e5 : k = 5
                · rw [if_pos e5, e5, pk_un (by decide), pk_us, ← hc7, nI_1, cl_nI (by omega)]
                · rw [if_neg e5]
                  by_cases e : k + 2 = 6
                  · rw [if_pos e, e, pk_us, cl_nI (by omega)]
                  · rw [if_neg e, pk_un e, pk_un (by omega)]; exact hI.cl (by omega) (by omega)
            have hcN : c ≠ N 7 := fun z => hc7 (by rw [z, hN 7 (by decide) (by decide)])
            refine v_cVv3 hB k_X9_228 (pX9_putInChest0 (c := c) (by rw [uN_n _ _ (by decide)]; omega) (by rw [uN_n _ _ (by decide), uN_n _ _ (by decide)]; omega) (by rw [uN_n _ _ (by decide), uN_n _ _ (by decide)]; omega) (by rw [uN_n _ _ (by decide)]; omega)) (by decide) ⟨by decide, by decide⟩ rfl rfl (Nat.le_of_ble_eq_true rfl) dX9_bale_104 ?_
            refine v_aload_n dX9_bale_107 rfl ?_
            refine v_iload dX9_bale_108 rfl ?_
            refine v_cVi1 hB k_X9_90 pX9_accept (by decide) ⟨by decide, by decide⟩ rfl rfl (Nat.le_of_ble_eq_true rfl) dX9_bale_110 ?_
            rw [hS] at hB
            have hrow : ∀ j, (clB true (gqB ar (nI fN) (nI gN)) (N 5) c n fN gN (sc 8) ar) j = bnd (gqB ar (nI fN) (nI gN)) (N 5) (nI n) (bAll c n fN gN (nI fN) (nI gN) sc ar) j := clB_eq true _ _ _ _ _ _ sc ar ⟨fun _ => hc7, fun _ => rfl⟩ e6
            have h26 := fun j (h : j < 12 ∨ (14 < j ∧ j < 29) ∨ j = 30) => (show bnd (gqB ar (nI fN) (nI gN)) (N 5) (nI n) (bAll c n fN gN (nI fN) (nI gN) sc ar) j = ar j by rw [bnd_n _ _ _ _ (by omega), (bAll_r c n fN gN (nI fN) (nI gN) sc ar).1 j (by omega)])
            refine v_iret hB (by decide) (by decide) dX9_bale_113 ⟨rfl, e30, tau, js, (upd mo 4 (mo 4 + 1)), (uN cp 4 cpx), (uN cn 4 (n + 1)), (uN al 4 (n + 1)), q3, pa, pn, ?_, (hJ.add (k := 4) (n := n) (cpx := cpx) (N2 := fun j => if j = 6 then n + 1 else N j) (ar2 := ar) (by decide) (by decide) (by omega) hcpx (fun k hk => by by_cases e : k = 4; (· subst e; rfl); (· rw [if_neg e]; exact if_neg (by omega))) rfl rfl rfl (fun _ _ _ _ => rfl)).same (fun j h1 h2 => ?_) (h26 22 (by decide)) (h26 26 (by decide)) (h26 28 (by decide)) (h26 30 (by decide)), hZ3⟩
            · refine xW_seen ?_ (fun j i hs => (congrFun (hrow j) i))
              show upd sc 1 0 8 = upd (upd (bS1 c sc) 6 (nI (n + 1))) 1 0 8 ∧ upd sc 1 0 9 = upd (upd (bS1 c sc) 6 (nI (n + 1))) 1 0 9 ∧ upd sc 1 0 10 = upd (upd (bS1 c sc) 6 (nI (n + 1))) 1 0 10 ∧ upd sc 1 0 1 = upd (upd (bS1 c sc) 6 (nI (n + 1))) 1 0 1
              unfold bS1
              split <;> refine ⟨?_, ?_, ?_, ?_⟩ <;> simp [upd]
            · show cl (upd (upd (bS1 c sc) 6 (nI (n + 1))) 1 0 j) = if j = 6 then n + 1 else N j
              rw [pk_un (by omega), show bS1 c sc = sc from if_neg hc7]
              by_cases e : j = 6
              · rw [if_pos e, e, pk_us, cl_nI (by omega)]
              · rw [if_neg e, pk_un e]; exact hI.cl h1 (by omega)
          · have h58 : ¬ c < 20 := fun z => h58 (nI_lt (b := 20) z (by decide))
            refine v_aload_n dX9_bale_61 rfl ?_
            refine v_iconst_v (v := 3) dX9_bale_62 (by decide) ?_
            refine v_cVi1 hB k_X9_73 pX9_refuse (by decide) ⟨by decide, by decide⟩ rfl rfl (Nat.le_of_ble_eq_true rfl) dX9_bale_63 ?_
            exact v_iret hB (by decide) (by decide) dX9_bale_66 (clP_same hI hJ hZ (show s_bale (nI fN) (nI gN) sc ar = (-1, upd sc 1 3, ar) by unfold s_bale; rw [if_pos hfg, hN 5 (by decide) (by decide), hN 7 (by decide) (by decide), cl_nI (n := N 5) (by omega), cl_nI (n := N 7) (by omega), if_neg h28, hc, if_pos (by first | exact Or.inl (by rw [e6, h52]; rfl) | exact Or.inr (by omega))]) (fun j h1 h2 => pk_un (by omega)) rfl rfl rfl rfl)
      · have h28 : ctN (gqB ar (nI fN) (nI gN)) (N 5) < 5 := Nat.not_le.mp (fun z => h28 (nI_le (a := 5) z (by omega)))
        refine v_aload_n dX9_bale_31 rfl ?_
        refine v_iconst_v (v := 5) dX9_bale_32 (by decide) ?_
        refine v_cVi1 hB k_X9_73 pX9_refuse (by decide) ⟨by decide, by decide⟩ rfl rfl (Nat.le_of_ble_eq_true rfl) dX9_bale_33 ?_
        exact v_iret hB (by decide) (by decide) dX9_bale_36 (clP_same hI hJ hZ (show s_bale (nI fN) (nI gN) sc ar = (-1, upd sc 1 5, ar) by unfold s_bale; rw [if_pos hfg, hN 5 (by decide) (by decide), cl_nI (n := N 5) (by omega), if_pos h28]) (fun j h1 h2 => pk_un (by omega)) rfl rfl rfl rfl)
    · rw [bI_eq] at h12
      refine v_aload_n dX9_bale_15 rfl ?_
      refine v_iconst_v (v := 1) dX9_bale_16 (by decide) ?_
      refine v_cVi1 hB k_X9_73 pX9_refuse (by decide) ⟨by decide, by decide⟩ rfl rfl (Nat.le_of_ble_eq_true rfl) dX9_bale_17 ?_
      exact v_iret hB (by decide) (by decide) dX9_bale_20 (clP_same hI hJ hZ (show s_bale f g sc ar = (-1, upd sc 1 1, ar) by unfold s_bale; rw [if_neg (fun z => by first | exact h5 (by rw [c0, ← hN 2 (by decide) (by decide)]; exact z.1) | exact h12 z.2)]) (fun j h1 h2 => pk_un (by omega)) rfl rfl rfl rfl)

