theorem lw_n24 : Cond.methodLinkNest RX6 24 yX9_isFrom "CinnamonPeelers" ∈ lw_tbl := lw_m (i := 523) (by decide +kernel)
theorem ac_int : Cond.arrayClass (newarray.typeOf .int) ∈ gt := gt_of 152 (by decide +kernel) (by decide +kernel)
theorem ac_bool : Cond.arrayClass (newarray.typeOf .boolean) ∈ gt := gt_of 120 (by decide +kernel) (by decide +kernel)
set_option maxHeartbeats 4000000 in
set_option maxRecDepth 100000 in
theorem iX6 {l : Launch} {D : va_G} {cy : Nat → ClassId} {s0 : State} {ad : zA} {w : zW} {n sz : Nat} {f dy : Int32} (hw : w 11 n = some (.inr (7, [.int 0, .int 0, .int 0, .int 0, .null, .int 0, .int 0, .int 0]))) (h14 : w 14 n = none) (hs1 : 1 ≤ sz) (hs4 : sz ≤ 4) : zM l D cy s0 yX6_init cX6_init 4 none 2 1 4 [.ref (ad 11 n), .int f, .int dy, .int (nI sz)] ad w (fun r ad2 w2 => r = none ∧ (∀ a b, ¬ (a = 14 ∧ b = n) → ad2 a b = ad a b) ∧ w2 = zU (zU w 14 n (some (.inl (cy 0, sz, .inl (fun _ => 0))))) 11 n (some (.inr (7, [.int f, .int dy, .int (-2), .int 0, .ref (ad2 14 n), .int 0, .int 0, .int 9])))) := by
  refine zM_of (own := RX6) rfl (by decide) (by simp [Value.category]) (Nat.le_of_ble_eq_true rfl) ?_
  intro X hB
  show V X RX6 cX6_init 4 none 0 0 ad w 0 [some (.ref (ad 11 n)), some (.int f), some (.int dy), some (.int (nI sz))] []
  refine v_aload_n dX6_init_0 rfl ?_
  refine v_obj hB o_X6_3 o_inst o_code (by decide) (Nat.le_of_ble_eq_true rfl) dX6_init_1 ?_
  refine v_aload_n dX6_init_4 rfl ?_
  refine v_bipush_v (v := -2) dX6_init_5 (by decide) ?_
  refine v_put (ci := 7) (k := 2) (ty := .int) tyX6 tyX6_ok nmX6 rfl inX6 (by decide) f_X6_9 rfl rfl (by decide +kernel) rfl rfl hw (Nat.le_of_ble_eq_true rfl) dX6_init_7 ?_
  refine v_w (show _ = zU w 11 n (some (.inr (7, [.int 0, .int 0, .int (-2), .int 0, .null, .int 0, .int 0, .int 0]))) from rfl) ?_
  refine v_aload_n dX6_init_10 rfl ?_
  refine v_bipush_v (v := 9) dX6_init_11 (by decide) ?_
  refine v_put (ci := 7) (k := 7) (ty := .int) tyX6 tyX6_ok nmX6 rfl inX6 (by decide) f_X6_15 rfl rfl (by decide +kernel) rfl rfl (zU_s _ _ _ _) (Nat.le_of_ble_eq_true rfl) dX6_init_13 ?_
  refine v_w (show _ = zU w 11 n (some (.inr (7, [.int 0, .int 0, .int (-2), .int 0, .null, .int 0, .int 0, .int 9]))) from zU_zU _ _ _ _ _) ?_
  refine v_aload_n dX6_init_16 rfl ?_
  refine v_iload_n dX6_init_17 rfl ?_
  refine v_putF hB.nm (ci := 7) (k := 0) (ty := .int) tyX6 tyX6_ok nmX6 rfl inX6 (by decide) f_X6_18 rfl rfl rfl (by decide +kernel) rfl rfl (zU_s _ _ _ _) (Nat.le_of_ble_eq_true rfl) dX6_init_18 ?_
  refine v_w (show _ = zU w 11 n (some (.inr (7, [.int f, .int 0, .int (-2), .int 0, .null, .int 0, .int 0, .int 9]))) from zU_zU _ _ _ _ _) ?_
  refine v_aload_n dX6_init_21 rfl ?_
  refine v_iload_n dX6_init_22 rfl ?_
  refine v_putF hB.nm (ci := 7) (k := 1) (ty := .int) tyX6 tyX6_ok nmX6 rfl inX6 (by decide) f_X6_21 rfl rfl rfl (by decide +kernel) rfl rfl (zU_s _ _ _ _) (Nat.le_of_ble_eq_true rfl) dX6_init_23 ?_
  refine v_w (show _ = zU w 11 n (some (.inr (7, [.int f, .int dy, .int (-2), .int 0, .null, .int 0, .int 0, .int 9]))) from zU_zU _ _ _ _ _) ?_
  refine v_aload_n dX6_init_26 rfl ?_
  refine v_iload_n dX6_init_27 rfl ?_
  refine v_iconst_v (v := 1) dX6_init_28 (by decide) ?_
  refine v_iconst_v (v := 4) dX6_init_29 (by decide) ?_
  refine v_callSN (As := [.int (nI sz), .int 1, .int 4]) hB lw_n24 ⟨k_X9_69.1.2.1, k_X9_69.1.2.2.1, k_X9_69.1.2.2.2⟩ k_X9_69.2 pX9_isFrom rfl (by decide) ⟨by decide, by decide⟩ (Nat.le_of_ble_eq_true rfl) dX6_init_30 ?_
  rintro r ad2 w2 ⟨rfl, rfl, rfl⟩
  show V X RX6 cX6_init 4 none 0 0 ad2 _ 33 _ [_, _]
  refine v_if_eq (tgt := 40) dX6_init_33 (by decide) (fun h33 => ?_) (fun _ => ?_)
  · exact absurd (And.intro (nI_le (a := 1) hs1 (by omega)) (nI_le (b := 4) hs4 (by decide))) (bI_eq.mp h33)
  refine v_iload_n dX6_init_36 rfl ?_
  refine v_goto (tgt := 41) dX6_init_37 (by decide) ?_
  refine v_newa (kk := 14) (ii := n) (t := 0) (N := sz) hB ac_int (Or.inl ⟨rfl, rfl⟩) rfl (by omega) (show zU w 11 n _ 14 n = none by rw [zU_n _ _ (by omega)]; exact h14) ⟨by omega, by omega⟩ dX6_init_41 (fun ad3 had => ?_)
  rw [← had 11 n (by omega)]
  refine v_putF hB.nm (ci := 7) (k := 4) (ty := .array .int) tyX6 tyX6_ok nmX6 rfl inX6 (by decide) f_X6_28 rfl rfl rfl (by decide +kernel) rfl rfl (show zU (zU w 11 n _) 14 n _ 11 n = _ by rw [zU_n _ _ (by omega), zU_s]) (Nat.le_of_ble_eq_true rfl) dX6_init_43 ?_
  refine v_vret hB (by omega) (by omega) dX6_init_46 ⟨rfl, had, ?_⟩
  rw [zU_comm _ _ _ (show ¬ (11 = 14 ∧ n = n) by omega), zU_zU]
  rfl

set_option maxHeartbeats 4000000 in
set_option maxRecDepth 100000 in
theorem pX6_take {l : Launch} {D : va_G} {cy : Nat → ClassId} {s0 : State} {ad : zA} {sc : Nat → Int32} {ar tau : Nat → Nat → Int32} {js mo : Nat → Int32} {cp cn al : Nat → Nat} {q3 pa : Nat → Nat → Int32} {pn : Nat → Nat} {n i : Nat} {x wd t : Int32} (hn : n < al 3) (h1 : q3 1 n = nI i) (hi : i < pn n) (hp : pn n ≤ 4) : zM l D cy s0 yX6_take cX6_take 4 none 1 0 0 [.ref (ad 11 n), .int x, .int wd, .int t] ad (xW cy ad sc ar tau js mo cp cn al q3 pa pn) (zPv ad (xW cy ad sc ar tau js mo cp cn al (putA (putA (putA (putA q3 1 n (nI (i + 1))) 2 n (if q3 2 n < wd then wd else q3 2 n)) 3 n (if t < q3 3 n then t else q3 3 n)) 0 n (q3 0 n + t)) (putA pa n i x) pn)) := by
  refine zM_of (own := RX6) rfl (by decide) (by simp [Value.category]) (Nat.le_of_ble_eq_true rfl) ?_
  intro X hB
  show V X RX6 cX6_take 4 none 0 0 ad (xW cy ad sc ar tau js mo cp cn al q3 pa pn) 0 [some (.ref (ad 11 n)), some (.int x), some (.int wd), some (.int t)] []
  refine v_aload_n dX6_take_0 rfl ?_
  refine xg_X6_32 (by omega) dX6_take_1 ?_
  refine v_aload_n dX6_take_4 rfl ?_
  refine xg_X6_28 (by omega) dX6_take_5 ?_
  refine x_lenq hB.cy (by omega) dX6_take_8 ?_
  refine v_icmp_ge (tgt := 66) dX6_take_9 (by decide) (fun h9 => ?_) (fun h9 => ?_)
  · exact absurd h9 (by rw [h1]; exact nI_ge hi (by omega))
  · refine v_aload_n dX6_take_12 rfl ?_
    refine xg_X6_28 (by omega) dX6_take_13 ?_
    refine v_aload_n dX6_take_16 rfl ?_
    refine xg_X6_32 (by omega) dX6_take_17 ?_
    refine v_iload_n dX6_take_20 rfl ?_
    refine x_stq hB.cy (by omega) h1 hi (by omega) dX6_take_21 ?_
    refine v_aload_n dX6_take_22 rfl ?_
    refine v_dup dX6_take_23 rfl ?_
    refine xg_X6_32 (by omega) dX6_take_24 ?_
    refine v_iconst_v (v := 1) dX6_take_27 (by decide) ?_
    refine v_iadd dX6_take_28 ?_
    refine v_eq (show q3 1 n + 1 = nI (i + 1) by rw [h1]; exact nI_add i 1) ?_
    refine xp_X6_32 (by omega) dX6_take_29 ?_
    refine v_aload_n dX6_take_32 rfl ?_
    refine v_aload_n dX6_take_33 rfl ?_
    refine xg_X6_35 (by omega) dX6_take_34 ?_
    refine v_iload_n dX6_take_37 rfl ?_
    refine v_max hB max_X6_38 max_s math_i max_c (by decide) ⟨by decide, by decide⟩ (Nat.le_of_ble_eq_true rfl) dX6_take_38 ?_
    
    refine xp_X6_35 (by omega) dX6_take_41 ?_
    refine v_aload_n dX6_take_44 rfl ?_
    refine v_aload_n dX6_take_45 rfl ?_
    refine xg_X6_15 (by omega) dX6_take_46 ?_
    refine v_iload_n dX6_take_49 rfl ?_
    refine v_min hB min_X6_44 min_s math_i min_c (by decide) ⟨by decide, by decide⟩ (Nat.le_of_ble_eq_true rfl) dX6_take_50 ?_
    
    refine xp_X6_15 (by omega) dX6_take_53 ?_
    refine v_aload_n dX6_take_56 rfl ?_
    refine v_dup dX6_take_57 rfl ?_
    refine xg_X6_47 (by omega) dX6_take_58 ?_
    refine v_iload_n dX6_take_61 rfl ?_
    refine v_iadd dX6_take_62 ?_
    
    refine xp_X6_47 (by omega) dX6_take_63 ?_
    exact v_vret hB (by decide) (by decide) dX6_take_66 ⟨rfl, rfl, rfl⟩

set_option maxHeartbeats 4000000 in
set_option maxRecDepth 100000 in
theorem pX9_putInto {l : Launch} {D : va_G} {cy : Nat → ClassId} {s0 : State} {ad : zA} {sc : Nat → Int32} {ar tau : Nat → Nat → Int32} {js mo : Nat → Int32} {cp cn al : Nat → Nat} {q3 pa : Nat → Nat → Int32} {pn : Nat → Nat} {n i s : Nat} (hs : s < cn 2) (hs2 : al 2 = cn 2) (hc2 : cn 2 ≤ cp 2) (hc2b : cp 2 ≤ 1000) (hc3 : cn 3 = n) (hn : n < al 3) (h1 : q3 1 n = nI i) (hi : i < pn n) (hp : pn n ≤ 4) : zM l D cy s0 yX9_putInto cX9_putInto 4 none 4 0 0 [.ref (ad 0 0), .ref (ad 11 n), .int (nI s)] ad (xW cy ad sc ar tau js mo cp cn al q3 pa pn) (zPv ad (xW cy ad sc (putA ar 24 s (nI n)) tau js mo cp cn al (putA (putA (putA (putA q3 1 n (nI (i + 1))) 2 n (if q3 2 n < (ar 21 s) then (ar 21 s) else q3 2 n)) 3 n (if ar 22 s < q3 3 n then ar 22 s else q3 3 n)) 0 n (q3 0 n + ar 22 s)) (putA pa n i (nI s)) pn)) := by
  refine zM_of (own := RX9) rfl (by decide) (by simp [Value.category]) (Nat.le_of_ble_eq_true rfl) ?_
  intro X hB
  show V X RX9 cX9_putInto 4 none 0 0 ad (xW cy ad sc ar tau js mo cp cn al q3 pa pn) 0 [some (.ref (ad 0 0)), some (.ref (ad 11 n)), some (.int (nI s)), none] []
  refine v_aload_n dX9_putInto_0 rfl ?_
  refine v_iload_n dX9_putInto_1 rfl ?_
  refine v_cVi1 hB k_X9_131 pX9_isStrip (by decide) ⟨by decide, by decide⟩ rfl rfl (Nat.le_of_ble_eq_true rfl) dX9_putInto_2 ?_
  refine v_if_eq (tgt := 44) dX9_putInto_5 (by decide) (fun h5 => ?_) (fun h5 => ?_)
  · exact absurd (n_fit hs (by omega)) (bI_eq.mp h5)
  · refine v_aload_n dX9_putInto_8 rfl ?_
    refine xg_X9_19 dX9_putInto_9 ?_
    refine v_iload_n dX9_putInto_12 rfl ?_
    
    refine v_cVr1 hB k_X9_113 (pJx4a65c_get_915e3 (by omega) (by omega) (by omega) (by omega)) (by decide) ⟨by decide, by decide⟩ rfl rfl (Nat.le_of_ble_eq_true rfl) dX9_putInto_13 ?_
    refine v_cast (ci := 8) rfl cl_X9_120 (xW_X7 (by omega)) dX9_putInto_16 ?_
    refine v_astore_n3 dX9_putInto_19 (by decide) ?_
    refine v_aload_n dX9_putInto_20 rfl ?_
    refine v_aload_n dX9_putInto_21 rfl ?_
    refine xg_X9_22 dX9_putInto_22 ?_
    refine v_cVi0 hB k_X9_77 (pJx4a65c_size_8abf5 (by omega)) (by decide) ⟨by decide, by decide⟩ rfl rfl (Nat.le_of_ble_eq_true rfl) dX9_putInto_25 ?_
    refine v_eq (show nI (cn 3) = nI n by rw [hc3]) ?_
    refine xp_X9_156 (by omega) dX9_putInto_28 ?_
    refine v_aload_n dX9_putInto_31 rfl ?_
    refine v_iload_n dX9_putInto_32 rfl ?_
    refine v_aload_n dX9_putInto_33 rfl ?_
    refine xg_X9_143 (by omega) dX9_putInto_34 ?_
    refine v_aload_n dX9_putInto_37 rfl ?_
    refine xg_X9_146 (by omega) dX9_putInto_38 ?_
    refine v_cVv3 hB k_X9_296 (pX6_take (i := i) (by omega) h1 hi hp) (by decide) ⟨by decide, by decide⟩ (xW_X6 (by omega)) rfl (Nat.le_of_ble_eq_true rfl) dX9_putInto_41 ?_
    exact v_vret hB (by decide) (by decide) dX9_putInto_44 ⟨rfl, rfl, rfl⟩

