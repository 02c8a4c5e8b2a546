def rkP (fN gN : Nat) (A : Nat → Nat → Int32) : Int32 := if bDu fN A = 0 then A 16 gN else 0
def rkA (b fN gN c : Nat) (day : Int32) (A : Nat → Nat → Int32) : Nat → Nat → Int32 := putA (putA (putA (putA (putA (putA (putA (bA6 fN A) 14 fN (bA6 fN A 14 fN + rkP fN gN A)) 31 b (nI fN)) 32 b (nI gN)) 33 b day) 34 b (nI c)) 39 b (bDu fN A)) 35 b (rkP fN gN A)
theorem bI_fit (p : Prop) [Decidable p] : fits .boolean (.int (bI p)) = true := by
  unfold bI; split <;> rfl
theorem bDu_01 (fN : Nat) (A : Nat → Nat → Int32) : bDu fN A = 0 ∨ bDu fN A = 1 := by
  unfold bDu bI; split
  · exact Or.inr rfl
  · exact Or.inl rfl
set_option maxHeartbeats 4000000 in
set_option maxRecDepth 100000 in
theorem pX9_reckon {l : Launch} {D : va_G} {cy : Nat → ClassId} {s0 : State} {ad : zA} {sc : Nat → Int32} {ar tau : Nat → Nat → Int32} {js mo : Nat → Int32} {cp cn al : Nat → Nat} {q3 pa : Nat → Nat → Int32} {pn : Nat → Nat} {fN gN c n : Nat} (hf : fN < cn 0) (ha : al 0 = cn 0) (hc0 : cn 0 ≤ cp 0) (hc1 : cp 0 ≤ 1000) (hg1 : 1 ≤ gN) (hg4 : gN ≤ 4) (h4 : al 4 = n) (h4c : cn 4 = n) : zM l D cy s0 yX9_reckon cX9_reckon 6 (some (.object "CinnamonPeelers$Bale")) 4 1 6 [.ref (ad 0 0), .int (nI fN), .int (nI gN), .int (nI c)] ad (xW cy ad sc ar tau js mo cp cn al q3 pa pn) (fun r ad2 w2 => r = some (.ref (ad2 12 n)) ∧ (∀ a b, ¬ (a = 12 ∧ b = n) → ad2 a b = ad a b) ∧ w2 = xW cy ad2 sc (rkA n fN gN c (sc 8) ar) tau js mo cp cn (uN al 4 (n + 1)) q3 pa pn) := by
  refine zM_of (own := RX9) rfl (by decide) (by simp [Value.category]) (Nat.le_of_ble_eq_true rfl) ?_
  intro X hB
  show V X RX9 cX9_reckon 6 (some (.object "CinnamonPeelers$Bale")) 0 0 ad (xW cy ad sc ar tau js mo cp cn al q3 pa pn) 0 [some (.ref (ad 0 0)), some (.int (nI fN)), some (.int (nI gN)), some (.int (nI c)), none, none] []
  have K54 : V X RX9 cX9_reckon 6 (some (.object "CinnamonPeelers$Bale")) 0 0 ad (xW cy ad sc (bA6 fN ar) tau js mo cp cn al q3 pa pn) 54 [some (.ref (ad 0 0)), some (.int (nI fN)), some (.int (nI gN)), some (.int (nI c)), some (.int (bDu fN ar)), none] [.int (rkP fN gN ar)] := by
    refine v_istore5 dX9_reckon_54 (by decide) ?_
    refine v_aload_n dX9_reckon_56 rfl ?_
    refine v_iload_n dX9_reckon_57 rfl ?_
    refine v_cVi1 hB k_X9_93 pX9_isFamily (by decide) ⟨by decide, by decide⟩ rfl rfl (Nat.le_of_ble_eq_true rfl) dX9_reckon_58 ?_
    refine v_if_eq (tgt := 85) dX9_reckon_61 (by decide) (fun h61 => ?_) (fun h61 => ?_)
    · exact absurd (n_fit hf (by omega)) (bI_eq.mp h61)
    · refine v_aload_n dX9_reckon_64 rfl ?_
      refine xg_X9_10 dX9_reckon_65 ?_
      refine v_iload_n dX9_reckon_68 rfl ?_
      refine v_cVr1 hB k_X9_113 (pJx4a65c_get_915e3 (by omega) (by omega) (by omega) (by omega)) (by decide) ⟨by decide, by decide⟩ rfl rfl (Nat.le_of_ble_eq_true rfl) dX9_reckon_69 ?_
      refine v_cast (ci := 3) rfl cl_X9_81 (xW_X2 (by omega)) dX9_reckon_72 ?_
      refine v_dup dX9_reckon_75 rfl ?_
      refine xg_X9_259 (by omega) dX9_reckon_76 ?_
      refine v_iload dX9_reckon_79 rfl ?_
      refine v_iadd dX9_reckon_81 ?_
      refine xp_X9_259 (by omega) dX9_reckon_82 ?_
      refine v_new (kk := 12) (ii := n) (ci := 1) (fs := [.int 0, .int 0, .int 0, .int 0, .int 0, .int 0]) hB tyX0 tyX0_ok rfl inX0 cl_X9_234 ins_X0 ini_X0 dfX0 (show xW _ _ _ _ _ _ _ _ _ _ _ _ _ 12 n = none by rw [xA12]; exact if_neg (by omega)) ⟨by decide, by decide⟩ dX9_reckon_85 (fun ad1 had1 => ?_)
      refine v_dup dX9_reckon_88 rfl ?_
      refine v_iload_n dX9_reckon_89 rfl ?_
      refine v_iload_n dX9_reckon_90 rfl ?_
      refine v_aload_n dX9_reckon_91 rfl ?_
      rw [← had1 0 0 (by omega)]
      refine v_get (kk := 0) (ii := 0) (ci := 10) (k := 12) rfl inX9 (by decide) f_X9_63 rfl (show zU _ _ _ _ 0 0 = _ by rw [zU_n _ _ (by omega)]; exact xW_X9) rfl dX9_reckon_92 ?_
      refine v_iload_n dX9_reckon_95 rfl ?_
      refine v_iload dX9_reckon_96 rfl ?_
      refine v_iload dX9_reckon_98 rfl ?_
      refine v_cIv6 hB k_X9_304 (iX0 (kk := 12) (ii := n) (zU_s _ _ _ _) (bI_n _) (bI_fit _)) (by decide) ⟨by decide, by decide⟩ (Nat.le_of_ble_eq_true rfl) dX9_reckon_100 ?_
      refine v_w (zU_zU _ _ _ _ _) ?_
      refine v_w (show _ = xW cy ad1 sc (rkA n fN gN c (sc 8) ar) tau js mo cp cn (uN al 4 (n + 1)) q3 pa pn from ?_) ?_
      · funext a b
        by_cases x12 : a = 12 ∧ b = n
        · rw [x12.1, x12.2, zU_s, xA12, if_pos (by rw [uN_s]; omega)]
          show _ = (some (.inr (1, [.int (rkA n fN gN c (sc 8) ar 31 n), .int (rkA n fN gN c (sc 8) ar 32 n), .int (rkA n fN gN c (sc 8) ar 33 n), .int (rkA n fN gN c (sc 8) ar 34 n), .int (rkA n fN gN c (sc 8) ar 39 n), .int (rkA n fN gN c (sc 8) ar 35 n)])) : Option va_E)
          rw [show rkA n fN gN c (sc 8) ar 31 n = nI fN by simp [rkA, putA, upA, upd], show rkA n fN gN c (sc 8) ar 32 n = nI gN by simp [rkA, putA, upA, upd], show rkA n fN gN c (sc 8) ar 33 n = sc 8 by simp [rkA, putA, upA, upd], show rkA n fN gN c (sc 8) ar 34 n = nI c by simp [rkA, putA, upA, upd], show rkA n fN gN c (sc 8) ar 39 n = bDu fN ar by simp [rkA, putA, upA, upd], show rkA n fN gN c (sc 8) ar 35 n = rkP fN gN ar by simp [rkA, putA, upA, upd]]
        rw [zU_n _ _ x12]
        refine (xW_alloc (k := 4) (by decide) (by omega) (by omega) (fun a b y1 y2 => had1 a b y1) (fun j i hs => ?_) (fun i hi => ⟨fun _ => rfl, rfl, rfl⟩) a b x12 (by omega)).symm
        unfold rkA
        by_cases e : i = n
        · have h31 : j < 31 ∨ (36 ≤ j ∧ j ≤ 38) := by unfold seen at hs; omega
          rw [putA_n _ _ _ (by omega), putA_n _ _ _ (by omega), putA_n _ _ _ (by omega), putA_n _ _ _ (by omega), putA_n _ _ _ (by omega), putA_n _ _ _ (by omega)]
        · rw [putA_i _ _ _ _ e, putA_i _ _ _ _ e, putA_i _ _ _ _ e, putA_i _ _ _ _ e, putA_i _ _ _ _ e, putA_i _ _ _ _ e]
      exact v_aret (Or.inl ⟨_, rfl⟩) hB (by decide) (by decide) dX9_reckon_103 ⟨rfl, fun a b y => had1 a b y, rfl⟩
  have K30 : V X RX9 cX9_reckon 6 (some (.object "CinnamonPeelers$Bale")) 0 0 ad (xW cy ad sc (bA6 fN ar) tau js mo cp cn al q3 pa pn) 30 [some (.ref (ad 0 0)), some (.int (nI fN)), some (.int (nI gN)), some (.int (nI c)), none, none] [.int (bDu fN ar)] := by
    refine v_istore4 dX9_reckon_30 (by decide) ?_
    refine v_iload dX9_reckon_32 rfl ?_
    refine v_if_ne (tgt := 44) dX9_reckon_34 (by decide) (fun h34 => ?_) (fun h34 => ?_)
    · have hp : rkP fN gN ar = 0 := if_neg h34
      refine v_iconst_v (v := 0) dX9_reckon_44 (by decide) ?_
      refine v_goto (tgt := 54) dX9_reckon_45 (by decide) ?_
      first | (refine v_eq (show (0 : Int32) = rkP fN gN ar from hp.symm) ?_; exact K54) | (refine v_eq (show bA6 fN ar 16 gN = rkP fN gN ar by rw [hp, bA6_k fN ar (by decide) (by decide)]) ?_; exact K54)
    · have hp : rkP fN gN ar = ar 16 gN := if_pos h34
      refine v_iload_n dX9_reckon_37 rfl ?_
      refine v_cSi1 hB k_X9_103 pX9_isGrade (by decide) ⟨by decide, by decide⟩ (Nat.le_of_ble_eq_true rfl) dX9_reckon_38 ?_
      refine v_if_ne (tgt := 48) dX9_reckon_41 (by decide) (fun h41 => ?_) (fun h41 => ?_)
      · refine v_aload_n dX9_reckon_48 rfl ?_
        refine xg_X9_52 dX9_reckon_49 ?_
        refine v_iload_n dX9_reckon_52 rfl ?_
        refine x_ldp hB.cy rfl (by omega) dX9_reckon_53 ?_
        first | (refine v_eq (show (0 : Int32) = rkP fN gN ar from hp.symm) ?_; exact K54) | (refine v_eq (show bA6 fN ar 16 gN = rkP fN gN ar by rw [hp, bA6_k fN ar (by decide) (by decide)]) ?_; exact K54)
      · exact absurd (And.intro (nI_le (a := 1) hg1 (by omega)) (nI_le (b := 4) hg4 (by decide))) (bI_eq.mp h41)
  refine v_aload_n dX9_reckon_0 rfl ?_
  refine v_iload_n dX9_reckon_1 rfl ?_
  refine v_cVi1 hB k_X9_93 pX9_isFamily (by decide) ⟨by decide, by decide⟩ rfl rfl (Nat.le_of_ble_eq_true rfl) dX9_reckon_2 ?_
  refine v_if_eq (tgt := 29) dX9_reckon_5 (by decide) (fun h5 => ?_) (fun h5 => ?_)
  · exact absurd (n_fit hf (by omega)) (bI_eq.mp h5)
  · refine v_aload_n dX9_reckon_8 rfl ?_
    refine xg_X9_10 dX9_reckon_9 ?_
    refine v_iload_n dX9_reckon_12 rfl ?_
    refine v_cVr1 hB k_X9_113 (pJx4a65c_get_915e3 (by omega) (by omega) (by omega) (by omega)) (by decide) ⟨by decide, by decide⟩ rfl rfl (Nat.le_of_ble_eq_true rfl) dX9_reckon_13 ?_
    refine v_cast (ci := 3) rfl cl_X9_81 (xW_X2 (by omega)) dX9_reckon_16 ?_
    refine v_cVi0 hB k_X9_301 (pX2_owesAndGives (by omega)) (by decide) ⟨by decide, by decide⟩ (xW_X2 (by omega)) rfl (Nat.le_of_ble_eq_true rfl) dX9_reckon_19 ?_
    refine v_if_eq (tgt := 29) dX9_reckon_22 (by decide) (fun h22 => ?_) (fun h22 => ?_)
    · refine v_iconst_v (v := 0) dX9_reckon_29 (by decide) ?_
      first | (refine v_eq (show (1 : Int32) = bDu fN ar from ((bDu_01 fN ar).resolve_left h22).symm) ?_; exact K30) | (refine v_eq (show (0 : Int32) = bDu fN ar from h22.symm) ?_; exact K30)
    · refine v_iconst_v (v := 1) dX9_reckon_25 (by decide) ?_
      refine v_goto (tgt := 30) dX9_reckon_26 (by decide) ?_
      first | (refine v_eq (show (1 : Int32) = bDu fN ar from ((bDu_01 fN ar).resolve_left h22).symm) ?_; exact K30) | (refine v_eq (show (0 : Int32) = bDu fN ar from h22.symm) ?_; exact K30)

set_option maxHeartbeats 4000000 in
set_option maxRecDepth 100000 in
theorem pX9_putInChest0 {l : Launch} {D : va_G} {cy : Nat → ClassId} {s0 : State} {ad : zA} {sc : Nat → Int32} {ar tau : Nat → Nat → Int32} {js mo : Nat → Int32} {cp cn al : Nat → Nat} {q3 pa : Nat → Nat → Int32} {pn : Nat → Nat} {c : Nat} {g x : Int32} (hc : c < cn 5) (ha : al 5 = cn 5) (hc0 : cn 5 ≤ cp 5) (hc1 : cp 5 ≤ 1000) : zM l D cy s0 yX9_putInChest cX9_putInChest 4 none 4 0 0 [.ref (ad 0 0), .int (nI c), .int g, .int x] ad (xW cy ad sc ar tau js mo cp cn al q3 pa pn) (zPv ad (xW cy ad sc (putA ar 37 c (ar 37 c + 1)) tau js mo cp cn al q3 pa pn)) := by
  refine zM_of (own := RX9) rfl (by decide) (by simp [Value.category]) (Nat.le_of_ble_eq_true rfl) ?_
  intro X hB
  show V X RX9 cX9_putInChest 4 none 0 0 ad (xW cy ad sc ar tau js mo cp cn al q3 pa pn) 0 [some (.ref (ad 0 0)), some (.int (nI c)), some (.int g), some (.int x)] []
  refine v_aload_n dX9_putInChest_0 rfl ?_
  refine v_iload_n dX9_putInChest_1 rfl ?_
  refine v_cVi1 hB k_X9_266 pX9_isChest (by decide) ⟨by decide, by decide⟩ rfl rfl (Nat.le_of_ble_eq_true rfl) dX9_putInChest_2 ?_
  refine v_if_eq (tgt := 31) dX9_putInChest_5 (by decide) (fun h5 => ?_) (fun h5 => ?_)
  · exact absurd (n_fit hc (by omega)) (bI_eq.mp h5)
  · refine v_aload_n dX9_putInChest_8 rfl ?_
    refine xg_X9_28 dX9_putInChest_9 ?_
    refine v_iload_n dX9_putInChest_12 rfl ?_
    refine v_cVr1 hB k_X9_113 (pJx4a65c_get_915e3 (by omega) (by omega) (by omega) (by omega)) (by decide) ⟨by decide, by decide⟩ rfl rfl (Nat.le_of_ble_eq_true rfl) dX9_putInChest_13 ?_
    refine v_cast (ci := 2) rfl cl_X9_269 (xW_X1 (by omega)) dX9_putInChest_16 ?_
    refine v_dup dX9_putInChest_19 rfl ?_
    refine xg_X9_272 (by omega) dX9_putInChest_20 ?_
    refine v_iconst_v (v := 1) dX9_putInChest_23 (by decide) ?_
    refine v_iadd dX9_putInChest_24 ?_
    refine xp_X9_272 (by omega) dX9_putInChest_25 ?_
    refine v_goto (tgt := 48) dX9_putInChest_28 (by decide) ?_
    exact v_vret hB (by decide) (by decide) dX9_putInChest_48 ⟨rfl, rfl, rfl⟩

set_option maxHeartbeats 4000000 in
set_option maxRecDepth 100000 in
theorem pX9_putInChest1 {l : Launch} {D : va_G} {cy : Nat → ClassId} {s0 : State} {ad : zA} {sc : Nat → Int32} {ar tau : Nat → Nat → Int32} {js mo : Nat → Int32} {cp cn al : Nat → Nat} {q3 pa : Nat → Nat → Int32} {pn : Nat → Nat} {n : Nat} {g x : Int32} (hG : zG s0) (hZ : XZ s0 cp ad) (hcn : cn 5 = n) (ha : al 5 = n) (hn : n ≤ 200) (hc0 : cn 5 ≤ cp 5) (hc1 : cp 5 ≤ 1000) : zM l D cy s0 yX9_putInChest cX9_putInChest 4 none 8 2 313 [.ref (ad 0 0), .int (nI n), .int g, .int x] ad (xW cy ad sc ar tau js mo cp cn al q3 pa pn) (fun r ad2 w2 => r = none ∧ (∀ a b, ¬ (a = 7 ∧ b = 5) → ¬ (a = 20 ∧ b = 0) → ¬ (a = 13 ∧ b = n) → ad2 a b = ad a b) ∧ ∃ cpx, (n + 1 ≤ cpx ∧ cpx ≤ 1000) ∧ w2 = xW cy ad2 sc (putA (putA (putA ar 36 n g) 38 n x) 37 n 1) tau js (upd mo 5 (mo 5 + 1)) (uN cp 5 cpx) (uN cn 5 (n + 1)) (uN al 5 (n + 1)) q3 pa pn) := by
  refine zM_of (own := RX9) rfl (by decide) (by simp [Value.category]) (Nat.le_of_ble_eq_true rfl) ?_
  intro X hB
  show V X RX9 cX9_putInChest 4 none 0 0 ad (xW cy ad sc ar tau js mo cp cn al q3 pa pn) 0 [some (.ref (ad 0 0)), some (.int (nI n)), some (.int g), some (.int x)] []
  refine v_aload_n dX9_putInChest_0 rfl ?_
  refine v_iload_n dX9_putInChest_1 rfl ?_
  refine v_cVi1 hB k_X9_266 pX9_isChest (by decide) ⟨by decide, by decide⟩ rfl rfl (Nat.le_of_ble_eq_true rfl) dX9_putInChest_2 ?_
  refine v_if_eq (tgt := 31) dX9_putInChest_5 (by decide) (fun h5 => ?_) (fun h5 => ?_)
  · refine v_aload_n dX9_putInChest_31 rfl ?_
    refine xg_X9_28 dX9_putInChest_32 ?_
    refine v_new (kk := 13) (ii := n) (ci := 2) (fs := [.int 0, .int 0, .int 0]) hB tyX1 tyX1_ok rfl inX1 cl_X9_269 ins_X1 ini_X1 dfX1 (show xW _ _ _ _ _ _ _ _ _ _ _ _ _ 13 n = none by rw [xA13]; exact if_neg (by omega)) ⟨by decide, by decide⟩ dX9_putInChest_35 (fun ad1 had1 => ?_)
    refine v_dup dX9_putInChest_38 rfl ?_
    refine v_iload_n dX9_putInChest_39 rfl ?_
    refine v_iload_n dX9_putInChest_40 rfl ?_
    refine v_cIv2 hB k_X9_308 (iX1 (kk := 13) (ii := n) (zU_s _ _ _ _)) (by decide) ⟨by decide, by decide⟩ (Nat.le_of_ble_eq_true rfl) dX9_putInChest_41 ?_
    refine v_w (zU_zU _ _ _ _ _) ?_
    rw [← had1 6 5 (by omega)]
    refine v_cVg1 hB k_X9_86 (pXadd (k := 5) (n := n) (ar2 := (putA (putA (putA ar 36 n g) 38 n x) 37 n 1)) (q32 := q3) (pa2 := pa) (pn2 := pn) hG (by decide) (ci := 2) rfl lw_ca5 (by omega) (by omega) (by omega) (by omega) (by omega) hZ (fun a b h1 h2 => had1 a b (by omega)) (fun a b h1 h2 => zU_n _ _ (by omega)) (fun ad2 cpx h9 => ?_) (fun z => absurd z (by decide)) (fun j i hs => ?_) (fun i hi => ⟨fun _ => rfl, rfl, rfl⟩) (fun i hi => ?_)) ⟨by decide, by decide⟩ ⟨by decide, by decide⟩ (show zU _ _ _ _ 6 5 = _ by rw [zU_n _ _ (by omega)]; exact xW_Jx4a65c (by decide)) rfl (Nat.le_of_ble_eq_true rfl) dX9_putInChest_44 ?_
    · rw [zU_s, xA13, if_pos (by rw [uN_s]; omega)]
      show some _ = some _
      rw [show (putA (putA (putA ar 36 n g) 38 n x) 37 n 1) 36 n = g by simp [putA, upA, upd], show (putA (putA (putA ar 36 n g) 38 n x) 37 n 1) 38 n = x by simp [putA, upA, upd], show (putA (putA (putA ar 36 n g) 38 n x) 37 n 1) 37 n = 1 by simp [putA, upA, upd]]
    · by_cases e : i = n
      · have h36 : j < 36 ∨ 38 < j := by unfold seen at hs; omega
        rw [putA_n _ _ _ (by omega), putA_n _ _ _ (by omega), putA_n _ _ _ (by omega)]
      · rw [putA_i _ _ _ _ e, putA_i _ _ _ _ e, putA_i _ _ _ _ e]
    · by_cases e : i = n
      · subst e; exact ⟨_, zU_s _ _ _ _⟩
      · rw [zU_n _ _ (by omega), xA13, if_pos (show i < al 5 by omega)]; exact ⟨_, rfl⟩
    rintro r ad2 w2 ⟨rfl, had2, cpx, hcpx, rfl⟩
    show V X RX9 cX9_putInChest 4 none _ _ ad2 _ 47 _ [_]
    refine v_pop dX9_putInChest_47 rfl ?_
    exact v_vret hB (by decide) (by decide) dX9_putInChest_48 ⟨rfl, fun a b y1 y2 y3 => by rw [had2 a b y1 y2]; exact had1 a b y3, cpx, hcpx, rfl⟩
  · exact absurd (bI_ne.mp h5).2 (by rw [hcn]; exact nI_nlt (Nat.le_refl _) (by omega))

