set_option maxHeartbeats 4000000 in
set_option maxRecDepth 100000 in
theorem iX8 {l : Launch} {D : va_G} {cy : Nat → ClassId} {s0 : State} {ad : zA} {w : zW} (hw : w 1 0 = some (.inr (9, [.null]))) (hn : ∀ a b, ((a = 5 ∧ b = 0)) → w a b = none) : zM l D cy s0 yX8_init cX8_init 1 none 2 1 3001 [.ref (ad 1 0)] ad w (fun r ad2 w2 => r = none ∧ (∀ a b, ¬ ((a = 5 ∧ b = 0)) → ad2 a b = ad a b) ∧ w2 = zU (zU w 5 0 (some (.inl (cy 1, 3001, .inl (fun _ => 0))))) 1 0 (some (.inr (9, [.ref (ad2 5 0)])))) := by
  refine zM_of (own := RX8) rfl (by decide) (by simp [Value.category]) (Nat.le_of_ble_eq_true rfl) ?_
  intro X hB
  show V X RX8 cX8_init 1 none 0 0 ad w 0 [some (.ref (ad 1 0))] []
  refine v_aload_n dX8_init_0 rfl ?_
  refine v_obj hB o_X8_3 o_inst o_code (by decide) (Nat.le_of_ble_eq_true rfl) dX8_init_1 ?_
  refine v_aload_n dX8_init_4 rfl ?_
  refine v_sipush_v (v := 3001) dX8_init_5 (by decide) ?_
  refine v_newa (kk := 5) (ii := 0) (t := 1) (N := 3001) hB ac_bool (Or.inr ⟨rfl, rfl⟩) (by decide) (by decide) (by exact hn 5 0 (by omega)) ⟨by decide, by decide⟩ dX8_init_8 (fun a1 g1 => ?_)
  rw [← g1 1 0 (by omega)]
  refine v_putF hB.nm (ci := 9) (k := 0) (ty := .array .boolean) tyX8 tyX8_ok nmX8 rfl inX8 (by decide) f_X8_9 rfl rfl rfl (by decide +kernel) rfl rfl (by rw [zU_n _ _ (by omega)]; exact hw) (Nat.le_of_ble_eq_true rfl) dX8_init_10 ?_
  refine v_w (show _ = zU (zU w 5 0 (some (.inl (cy 1, 3001, .inl (fun _ => 0))))) 1 0 (some (.inr (9, [.ref (a1 5 0)]))) from rfl) ?_
  refine v_vret hB (by decide) (by decide) dX8_init_13 ⟨rfl, fun a b y => ?_, ?_⟩
  · rw [g1 a b (by omega)]
  · rfl
set_option maxHeartbeats 4000000 in
set_option maxRecDepth 100000 in
theorem iX4 {l : Launch} {D : va_G} {cy : Nat → ClassId} {s0 : State} {ad : zA} {w : zW} (hw : w 2 0 = some (.inr (5, [.null, .null, .null, .null, .null, .null, .int 0, .int 0]))) (hn : ∀ a b, ((a = 4 ∧ b = 1) ∨ (a = 4 ∧ b = 2) ∨ (a = 4 ∧ b = 3) ∨ (a = 4 ∧ b = 4) ∨ (a = 4 ∧ b = 5) ∨ (a = 4 ∧ b = 6)) → w a b = none) : zM l D cy s0 yX4_init cX4_init 1 none 2 6 1989 [.ref (ad 2 0)] ad w (fun r ad2 w2 => r = none ∧ (∀ a b, ¬ ((a = 4 ∧ b = 1) ∨ (a = 4 ∧ b = 2) ∨ (a = 4 ∧ b = 3) ∨ (a = 4 ∧ b = 4) ∨ (a = 4 ∧ b = 5) ∨ (a = 4 ∧ b = 6)) → ad2 a b = ad a b) ∧ w2 = zU (zU (zU (zU (zU (zU (zU w 4 1 (some (.inl (cy 0, 30, .inl (fun _ => 0))))) 4 2 (some (.inl (cy 0, 30, .inl (fun _ => 0))))) 4 3 (some (.inl (cy 0, 30, .inl (fun _ => 0))))) 4 4 (some (.inl (cy 0, 1891, .inl (fun _ => 0))))) 4 5 (some (.inl (cy 0, 4, .inl (fun _ => 0))))) 4 6 (some (.inl (cy 0, 4, .inl (fun _ => 0))))) 2 0 (some (.inr (5, [.ref (ad2 4 1), .ref (ad2 4 2), .ref (ad2 4 3), .ref (ad2 4 4), .ref (ad2 4 5), .ref (ad2 4 6), .int 0, .int 0])))) := by
  refine zM_of (own := RX4) rfl (by decide) (by simp [Value.category]) (Nat.le_of_ble_eq_true rfl) ?_
  intro X hB
  show V X RX4 cX4_init 1 none 0 0 ad w 0 [some (.ref (ad 2 0))] []
  refine v_aload_n dX4_init_0 rfl ?_
  refine v_obj hB o_X4_3 o_inst o_code (by decide) (Nat.le_of_ble_eq_true rfl) dX4_init_1 ?_
  refine v_aload_n dX4_init_4 rfl ?_
  refine v_bipush_v (v := 30) dX4_init_5 (by decide) ?_
  refine v_newa (kk := 4) (ii := 1) (t := 0) (N := 30) hB ac_int (Or.inl ⟨rfl, rfl⟩) (by decide) (by decide) (by exact hn 4 1 (by omega)) ⟨by decide, by decide⟩ dX4_init_7 (fun a1 g1 => ?_)
  rw [← g1 2 0 (by omega)]
  refine v_putF hB.nm (ci := 5) (k := 0) (ty := .array .int) tyX4 tyX4_ok nmX4 rfl inX4 (by decide) f_X4_9 rfl rfl rfl (by decide +kernel) rfl rfl (by rw [zU_n _ _ (by omega)]; exact hw) (Nat.le_of_ble_eq_true rfl) dX4_init_9 ?_
  refine v_w (show _ = zU (zU w 4 1 (some (.inl (cy 0, 30, .inl (fun _ => 0))))) 2 0 (some (.inr (5, [.ref (a1 4 1), .null, .null, .null, .null, .null, .int 0, .int 0]))) from rfl) ?_
  refine v_aload_n dX4_init_12 rfl ?_
  refine v_bipush_v (v := 30) dX4_init_13 (by decide) ?_
  refine v_newa (kk := 4) (ii := 2) (t := 0) (N := 30) hB ac_int (Or.inl ⟨rfl, rfl⟩) (by decide) (by decide) (by rw [zU_n _ _ (by omega), zU_n _ _ (by omega)]; exact hn 4 2 (by omega)) ⟨by decide, by decide⟩ dX4_init_15 (fun a2 g2 => ?_)
  rw [← g2 2 0 (by omega)]
  refine v_putF hB.nm (ci := 5) (k := 1) (ty := .array .int) tyX4 tyX4_ok nmX4 rfl inX4 (by decide) f_X4_15 rfl rfl rfl (by decide +kernel) rfl rfl (by rw [zU_n _ _ (by omega), zU_s]) (Nat.le_of_ble_eq_true rfl) dX4_init_17 ?_
  refine v_w (show _ = zU (zU (zU w 4 1 (some (.inl (cy 0, 30, .inl (fun _ => 0))))) 4 2 (some (.inl (cy 0, 30, .inl (fun _ => 0))))) 2 0 (some (.inr (5, [.ref (a1 4 1), .ref (a2 4 2), .null, .null, .null, .null, .int 0, .int 0]))) from by rw [zU_comm _ _ _ (show ¬ (2 = 4 ∧ 0 = 2) by decide), zU_zU]; rfl) ?_
  refine v_aload_n dX4_init_20 rfl ?_
  refine v_bipush_v (v := 30) dX4_init_21 (by decide) ?_
  refine v_newa (kk := 4) (ii := 3) (t := 0) (N := 30) hB ac_int (Or.inl ⟨rfl, rfl⟩) (by decide) (by decide) (by rw [zU_n _ _ (by omega), zU_n _ _ (by omega), zU_n _ _ (by omega)]; exact hn 4 3 (by omega)) ⟨by decide, by decide⟩ dX4_init_23 (fun a3 g3 => ?_)
  rw [← g3 2 0 (by omega)]
  refine v_putF hB.nm (ci := 5) (k := 2) (ty := .array .int) tyX4 tyX4_ok nmX4 rfl inX4 (by decide) f_X4_18 rfl rfl rfl (by decide +kernel) rfl rfl (by rw [zU_n _ _ (by omega), zU_s]) (Nat.le_of_ble_eq_true rfl) dX4_init_25 ?_
  refine v_w (show _ = zU (zU (zU (zU w 4 1 (some (.inl (cy 0, 30, .inl (fun _ => 0))))) 4 2 (some (.inl (cy 0, 30, .inl (fun _ => 0))))) 4 3 (some (.inl (cy 0, 30, .inl (fun _ => 0))))) 2 0 (some (.inr (5, [.ref (a1 4 1), .ref (a2 4 2), .ref (a3 4 3), .null, .null, .null, .int 0, .int 0]))) from by rw [zU_comm _ _ _ (show ¬ (2 = 4 ∧ 0 = 3) by decide), zU_zU]; rfl) ?_
  refine v_aload_n dX4_init_28 rfl ?_
  refine v_sipush_v (v := 1891) dX4_init_29 (by decide) ?_
  refine v_newa (kk := 4) (ii := 4) (t := 0) (N := 1891) hB ac_int (Or.inl ⟨rfl, rfl⟩) (by decide) (by decide) (by rw [zU_n _ _ (by omega), zU_n _ _ (by omega), zU_n _ _ (by omega), zU_n _ _ (by omega)]; exact hn 4 4 (by omega)) ⟨by decide, by decide⟩ dX4_init_32 (fun a4 g4 => ?_)
  rw [← g4 2 0 (by omega)]
  refine v_putF hB.nm (ci := 5) (k := 3) (ty := .array .int) tyX4 tyX4_ok nmX4 rfl inX4 (by decide) f_X4_21 rfl rfl rfl (by decide +kernel) rfl rfl (by rw [zU_n _ _ (by omega), zU_s]) (Nat.le_of_ble_eq_true rfl) dX4_init_34 ?_
  refine v_w (show _ = zU (zU (zU (zU (zU w 4 1 (some (.inl (cy 0, 30, .inl (fun _ => 0))))) 4 2 (some (.inl (cy 0, 30, .inl (fun _ => 0))))) 4 3 (some (.inl (cy 0, 30, .inl (fun _ => 0))))) 4 4 (some (.inl (cy 0, 1891, .inl (fun _ => 0))))) 2 0 (some (.inr (5, [.ref (a1 4 1), .ref (a2 4 2), .ref (a3 4 3), .ref (a4 4 4), .null, .null, .int 0, .int 0]))) from by rw [zU_comm _ _ _ (show ¬ (2 = 4 ∧ 0 = 4) by decide), zU_zU]; rfl) ?_
  refine v_aload_n dX4_init_37 rfl ?_
  refine v_iconst_v (v := 4) dX4_init_38 (by decide) ?_
  refine v_newa (kk := 4) (ii := 5) (t := 0) (N := 4) hB ac_int (Or.inl ⟨rfl, rfl⟩) (by decide) (by decide) (by rw [zU_n _ _ (by omega), zU_n _ _ (by omega), zU_n _ _ (by omega), zU_n _ _ (by omega), zU_n _ _ (by omega)]; exact hn 4 5 (by omega)) ⟨by decide, by decide⟩ dX4_init_39 (fun a5 g5 => ?_)
  rw [← g5 2 0 (by omega)]
  refine v_putF hB.nm (ci := 5) (k := 4) (ty := .array .int) tyX4 tyX4_ok nmX4 rfl inX4 (by decide) f_X4_24 rfl rfl rfl (by decide +kernel) rfl rfl (by rw [zU_n _ _ (by omega), zU_s]) (Nat.le_of_ble_eq_true rfl) dX4_init_41 ?_
  refine v_w (show _ = zU (zU (zU (zU (zU (zU w 4 1 (some (.inl (cy 0, 30, .inl (fun _ => 0))))) 4 2 (some (.inl (cy 0, 30, .inl (fun _ => 0))))) 4 3 (some (.inl (cy 0, 30, .inl (fun _ => 0))))) 4 4 (some (.inl (cy 0, 1891, .inl (fun _ => 0))))) 4 5 (some (.inl (cy 0, 4, .inl (fun _ => 0))))) 2 0 (some (.inr (5, [.ref (a1 4 1), .ref (a2 4 2), .ref (a3 4 3), .ref (a4 4 4), .ref (a5 4 5), .null, .int 0, .int 0]))) from by rw [zU_comm _ _ _ (show ¬ (2 = 4 ∧ 0 = 5) by decide), zU_zU]; rfl) ?_
  refine v_aload_n dX4_init_44 rfl ?_
  refine v_iconst_v (v := 4) dX4_init_45 (by decide) ?_
  refine v_newa (kk := 4) (ii := 6) (t := 0) (N := 4) hB ac_int (Or.inl ⟨rfl, rfl⟩) (by decide) (by decide) (by rw [zU_n _ _ (by omega), zU_n _ _ (by omega), zU_n _ _ (by omega), zU_n _ _ (by omega), zU_n _ _ (by omega), zU_n _ _ (by omega)]; exact hn 4 6 (by omega)) ⟨by decide, by decide⟩ dX4_init_46 (fun a6 g6 => ?_)
  rw [← g6 2 0 (by omega)]
  refine v_putF hB.nm (ci := 5) (k := 5) (ty := .array .int) tyX4 tyX4_ok nmX4 rfl inX4 (by decide) f_X4_27 rfl rfl rfl (by decide +kernel) rfl rfl (by rw [zU_n _ _ (by omega), zU_s]) (Nat.le_of_ble_eq_true rfl) dX4_init_48 ?_
  refine v_w (show _ = zU (zU (zU (zU (zU (zU (zU w 4 1 (some (.inl (cy 0, 30, .inl (fun _ => 0))))) 4 2 (some (.inl (cy 0, 30, .inl (fun _ => 0))))) 4 3 (some (.inl (cy 0, 30, .inl (fun _ => 0))))) 4 4 (some (.inl (cy 0, 1891, .inl (fun _ => 0))))) 4 5 (some (.inl (cy 0, 4, .inl (fun _ => 0))))) 4 6 (some (.inl (cy 0, 4, .inl (fun _ => 0))))) 2 0 (some (.inr (5, [.ref (a1 4 1), .ref (a2 4 2), .ref (a3 4 3), .ref (a4 4 4), .ref (a5 4 5), .ref (a6 4 6), .int 0, .int 0]))) from by rw [zU_comm _ _ _ (show ¬ (2 = 4 ∧ 0 = 6) by decide), zU_zU]; rfl) ?_
  have e0 : a6 4 1 = a1 4 1 := by rw [g6 4 1 (by decide), g5 4 1 (by decide), g4 4 1 (by decide), g3 4 1 (by decide), g2 4 1 (by decide)]
  have e1 : a6 4 2 = a2 4 2 := by rw [g6 4 2 (by decide), g5 4 2 (by decide), g4 4 2 (by decide), g3 4 2 (by decide)]
  have e2 : a6 4 3 = a3 4 3 := by rw [g6 4 3 (by decide), g5 4 3 (by decide), g4 4 3 (by decide)]
  have e3 : a6 4 4 = a4 4 4 := by rw [g6 4 4 (by decide), g5 4 4 (by decide)]
  have e4 : a6 4 5 = a5 4 5 := by rw [g6 4 5 (by decide)]
  refine v_vret hB (by decide) (by decide) dX4_init_51 ⟨rfl, fun a b y => ?_, ?_⟩
  · rw [g6 a b (by omega), g5 a b (by omega), g4 a b (by omega), g3 a b (by omega), g2 a b (by omega), g1 a b (by omega)]
  · rw [e0, e1, e2, e3, e4]
set_option maxHeartbeats 4000000 in
set_option maxRecDepth 100000 in
theorem iX5 {l : Launch} {D : va_G} {cy : Nat → ClassId} {s0 : State} {ad : zA} {w : zW} (hw : w 3 0 = some (.inr (6, [.null, .null, .null, .null, .int 0, .int 0, .int 0]))) (hn : ∀ a b, ((a = 4 ∧ b = 7) ∨ (a = 4 ∧ b = 8) ∨ (a = 4 ∧ b = 9) ∨ (a = 4 ∧ b = 10)) → w a b = none) : zM l D cy s0 yX5_init cX5_init 1 none 2 4 4914 [.ref (ad 3 0)] ad w (fun r ad2 w2 => r = none ∧ (∀ a b, ¬ ((a = 4 ∧ b = 7) ∨ (a = 4 ∧ b = 8) ∨ (a = 4 ∧ b = 9) ∨ (a = 4 ∧ b = 10)) → ad2 a b = ad a b) ∧ w2 = zU (zU (zU (zU (zU w 4 7 (some (.inl (cy 0, 12, .inl (fun _ => 0))))) 4 8 (some (.inl (cy 0, 793, .inl (fun _ => 0))))) 4 9 (some (.inl (cy 0, 13, .inl (fun _ => 0))))) 4 10 (some (.inl (cy 0, 4096, .inl (fun _ => 0))))) 3 0 (some (.inr (6, [.ref (ad2 4 7), .ref (ad2 4 8), .ref (ad2 4 9), .ref (ad2 4 10), .int 0, .int 0, .int 0])))) := by
  refine zM_of (own := RX5) rfl (by decide) (by simp [Value.category]) (Nat.le_of_ble_eq_true rfl) ?_
  intro X hB
  show V X RX5 cX5_init 1 none 0 0 ad w 0 [some (.ref (ad 3 0))] []
  refine v_aload_n dX5_init_0 rfl ?_
  refine v_obj hB o_X5_3 o_inst o_code (by decide) (Nat.le_of_ble_eq_true rfl) dX5_init_1 ?_
  refine v_aload_n dX5_init_4 rfl ?_
  refine v_bipush_v (v := 12) dX5_init_5 (by decide) ?_
  refine v_newa (kk := 4) (ii := 7) (t := 0) (N := 12) hB ac_int (Or.inl ⟨rfl, rfl⟩) (by decide) (by decide) (by exact hn 4 7 (by omega)) ⟨by decide, by decide⟩ dX5_init_7 (fun a1 g1 => ?_)
  rw [← g1 3 0 (by omega)]
  refine v_putF hB.nm (ci := 6) (k := 0) (ty := .array .int) tyX5 tyX5_ok nmX5 rfl inX5 (by decide) f_X5_9 rfl rfl rfl (by decide +kernel) rfl rfl (by rw [zU_n _ _ (by omega)]; exact hw) (Nat.le_of_ble_eq_true rfl) dX5_init_9 ?_
  refine v_w (show _ = zU (zU w 4 7 (some (.inl (cy 0, 12, .inl (fun _ => 0))))) 3 0 (some (.inr (6, [.ref (a1 4 7), .null, .null, .null, .int 0, .int 0, .int 0]))) from rfl) ?_
  refine v_aload_n dX5_init_12 rfl ?_
  refine v_sipush_v (v := 793) dX5_init_13 (by decide) ?_
  refine v_newa (kk := 4) (ii := 8) (t := 0) (N := 793) hB ac_int (Or.inl ⟨rfl, rfl⟩) (by decide) (by decide) (by rw [zU_n _ _ (by omega), zU_n _ _ (by omega)]; exact hn 4 8 (by omega)) ⟨by decide, by decide⟩ dX5_init_16 (fun a2 g2 => ?_)
  rw [← g2 3 0 (by omega)]
  refine v_putF hB.nm (ci := 6) (k := 1) (ty := .array .int) tyX5 tyX5_ok nmX5 rfl inX5 (by decide) f_X5_15 rfl rfl rfl (by decide +kernel) rfl rfl (by rw [zU_n _ _ (by omega), zU_s]) (Nat.le_of_ble_eq_true rfl) dX5_init_18 ?_
  refine v_w (show _ = zU (zU (zU w 4 7 (some (.inl (cy 0, 12, .inl (fun _ => 0))))) 4 8 (some (.inl (cy 0, 793, .inl (fun _ => 0))))) 3 0 (some (.inr (6, [.ref (a1 4 7), .ref (a2 4 8), .null, .null, .int 0, .int 0, .int 0]))) from by rw [zU_comm _ _ _ (show ¬ (3 = 4 ∧ 0 = 8) by decide), zU_zU]; rfl) ?_
  refine v_aload_n dX5_init_21 rfl ?_
  refine v_bipush_v (v := 13) dX5_init_22 (by decide) ?_
  refine v_newa (kk := 4) (ii := 9) (t := 0) (N := 13) hB ac_int (Or.inl ⟨rfl, rfl⟩) (by decide) (by decide) (by rw [zU_n _ _ (by omega), zU_n _ _ (by omega), zU_n _ _ (by omega)]; exact hn 4 9 (by omega)) ⟨by decide, by decide⟩ dX5_init_24 (fun a3 g3 => ?_)
  rw [← g3 3 0 (by omega)]
  refine v_putF hB.nm (ci := 6) (k := 2) (ty := .array .int) tyX5 tyX5_ok nmX5 rfl inX5 (by decide) f_X5_18 rfl rfl rfl (by decide +kernel) rfl rfl (by rw [zU_n _ _ (by omega), zU_s]) (Nat.le_of_ble_eq_true rfl) dX5_init_26 ?_
  refine v_w (show _ = zU (zU (zU (zU w 4 7 (some (.inl (cy 0, 12, .inl (fun _ => 0))))) 4 8 (some (.inl (cy 0, 793, .inl (fun _ => 0))))) 4 9 (some (.inl (cy 0, 13, .inl (fun _ => 0))))) 3 0 (some (.inr (6, [.ref (a1 4 7), .ref (a2 4 8), .ref (a3 4 9), .null, .int 0, .int 0, .int 0]))) from by rw [zU_comm _ _ _ (show ¬ (3 = 4 ∧ 0 = 9) by decide), zU_zU]; rfl) ?_
  refine v_aload_n dX5_init_29 rfl ?_
  refine v_sipush_v (v := 4096) dX5_init_30 (by decide) ?_
  refine v_newa (kk := 4) (ii := 10) (t := 0) (N := 4096) hB ac_int (Or.inl ⟨rfl, rfl⟩) (by decide) (by decide) (by rw [zU_n _ _ (by omega), zU_n _ _ (by omega), zU_n _ _ (by omega), zU_n _ _ (by omega)]; exact hn 4 10 (by omega)) ⟨by decide, by decide⟩ dX5_init_33 (fun a4 g4 => ?_)
  rw [← g4 3 0 (by omega)]
  refine v_putF hB.nm (ci := 6) (k := 3) (ty := .array .int) tyX5 tyX5_ok nmX5 rfl inX5 (by decide) f_X5_21 rfl rfl rfl (by decide +kernel) rfl rfl (by rw [zU_n _ _ (by omega), zU_s]) (Nat.le_of_ble_eq_true rfl) dX5_init_35 ?_
  refine v_w (show _ = zU (zU (zU (zU (zU w 4 7 (some (.inl (cy 0, 12, .inl (fun _ => 0))))) 4 8 (some (.inl (cy 0, 793, .inl (fun _ => 0))))) 4 9 (some (.inl (cy 0, 13, .inl (fun _ => 0))))) 4 10 (some (.inl (cy 0, 4096, .inl (fun _ => 0))))) 3 0 (some (.inr (6, [.ref (a1 4 7), .ref (a2 4 8), .ref (a3 4 9), .ref (a4 4 10), .int 0, .int 0, .int 0]))) from by rw [zU_comm _ _ _ (show ¬ (3 = 4 ∧ 0 = 10) by decide), zU_zU]; rfl) ?_
  have e0 : a4 4 7 = a1 4 7 := by rw [g4 4 7 (by decide), g3 4 7 (by decide), g2 4 7 (by decide)]
  have e1 : a4 4 8 = a2 4 8 := by rw [g4 4 8 (by decide), g3 4 8 (by decide)]
  have e2 : a4 4 9 = a3 4 9 := by rw [g4 4 9 (by decide)]
  refine v_vret hB (by decide) (by decide) dX5_init_38 ⟨rfl, fun a b y => ?_, ?_⟩
  · rw [g4 a b (by omega), g3 a b (by omega), g2 a b (by omega), g1 a b (by omega)]
  · rw [e0, e1, e2]
theorem kn_X8 : Cond.instanceMethod yX8_init ∈ gt ∧ Cond.initialized yX8_init.cls ∈ gt ∧ Cond.code yX8_init cX8_init 1 none ∈ gt := ⟨gt_of 113 (by decide +kernel) (by decide +kernel), gt_of 55 (by decide +kernel) (by decide +kernel), gt_of 114 (by decide +kernel) (by decide +kernel)⟩
theorem lw_nX8 : Cond.methodLinkNest RX9 33 yX8_init "CinnamonPeelers" ∈ lw_tbl := lw_m (i := 112) (by decide +kernel)
theorem kn_X4 : Cond.instanceMethod yX4_init ∈ gt ∧ Cond.initialized yX4_init.cls ∈ gt ∧ Cond.code yX4_init cX4_init 1 none ∈ gt := ⟨gt_of 124 (by decide +kernel) (by decide +kernel), gt_of 56 (by decide +kernel) (by decide +kernel), gt_of 125 (by decide +kernel) (by decide +kernel)⟩
theorem lw_nX4 : Cond.methodLinkNest RX9 40 yX4_init "CinnamonPeelers" ∈ lw_tbl := lw_m (i := 123) (by decide +kernel)
theorem kn_X5 : Cond.instanceMethod yX5_init ∈ gt ∧ Cond.initialized yX5_init.cls ∈ gt ∧ Cond.code yX5_init cX5_init 1 none ∈ gt := ⟨gt_of 156 (by decide +kernel) (by decide +kernel), gt_of 57 (by decide +kernel) (by decide +kernel), gt_of 157 (by decide +kernel) (by decide +kernel)⟩
theorem lw_nX5 : Cond.methodLinkNest RX9 47 yX5_init "CinnamonPeelers" ∈ lw_tbl := lw_m (i := 155) (by decide +kernel)
theorem v_ad {X : zX} {own : String} {cc : ByteArray} {nL : Nat} {ret : Option FieldType} {n1 n2 : Nat} {ad ad2 : zA} {w : zW} {pc : Nat} {ls : List (Option Value)} {st : List Value} (h : ∀ k i, w k i ≠ none → ad2 k i = ad k i) (kont : V X own cc nL ret n1 n2 ad2 w pc ls st) : V X own cc nL ret n1 n2 ad w pc ls st := by
  obtain ⟨p, l, e, R, s, m, args, below, meth, c0, Q, A, D, cy, s0⟩ := X
  intro C1 H locs la hR hS hA hl
  refine kont C1 H locs la ⟨fun k i c hc => ?_, fun k i k2 i2 h1 h2 he => ?_, hR.2.2.1, fun k i h1 => ?_⟩ (fun k i h1 => ?_) hA hl
  · rw [h k i (by rw [hc]; exact fun z => by cases z)]; exact hR.1 k i c hc
  · rw [h k i h1, h k2 i2 h2] at he; exact hR.2.1 k i k2 i2 h1 h2 he
  · rw [h k i h1]; exact hR.2.2.2 k i h1
  · rw [h k i h1]; exact hS k i h1
set_option maxHeartbeats 4000000 in
set_option maxRecDepth 100000 in
theorem pX9_init {l : Launch} {D : va_G} {cy : Nat → ClassId} {s0 : State} {ad : zA} (hG : zG s0) : zM l D cy s0 yX9_init cX9_init 1 none 4 21 9943 [.ref (ad 0 0)] ad (fun k i => if k = 0 ∧ i = 0 then some (.inr (10, [.null, .null, .null, .null, .null, .null, .null, .null, .null, .null, .int 0, .int 0, .int 0, .int 0])) else none) (fun r ad2 w2 => r = none ∧ ad2 0 0 = ad 0 0 ∧ w2 = xW cy ad2 sc0 (ar0 5) (fun _ _ => 0) (fun _ => 0) (fun _ => 0) (fun _ => 0) (fun _ => 0) (fun _ => 0) (fun _ _ => 0) (fun _ _ => 0) (fun _ => 0) ∧ XZ s0 (fun _ => 0) ad2) := by
  obtain ⟨t, hSt⟩ := zSt.ex hG
  refine zM_of (own := RX9) rfl (by decide) (by simp [Value.category]) (Nat.le_of_ble_eq_true rfl) ?_
  intro X hB
  show V X RX9 cX9_init 1 none 0 0 ad (fun k i => if k = 0 ∧ i = 0 then some (.inr (10, [.null, .null, .null, .null, .null, .null, .null, .null, .null, .null, .int 0, .int 0, .int 0, .int 0])) else none) 0 [some (.ref (ad 0 0))] []
  refine v_aload_n dX9_init_0 rfl ?_
  refine v_obj hB o_X9_1 o_inst o_code (by decide) (Nat.le_of_ble_eq_true rfl) dX9_init_1 ?_
  refine v_w (show _ = zU (fun _ _ => none) 0 0 (some (.inr (10, [.null, .null, .null, .null, .null, .null, .null, .null, .null, .null, .int 0, .int 0, .int 0, .int 0]))) from rfl) ?_
  refine v_aload_n dX9_init_4 rfl ?_
  refine v_new (kk := 6) (ii := 0) (ci := 0) (fs := [.int 0, .null, .int 0]) hB tyJx4a65c tyJx4a65c_ok rfl inJx4a65c cl_X9_7 ins_Jx4a65c ini_Jx4a65c dfJx4a65c (show _ = none by rw [zU_n _ _ (by omega)]) ⟨by decide, by decide⟩ dX9_init_5 (fun b1 q1 => ?_)
  refine v_dup dX9_init_8 rfl ?_
  refine v_cIv0 hB k_X9_9 (pJx4a65c_init (kk := 6) (ii := 0) hSt (zU_s _ _ _ _)) (by decide) ⟨by decide, by decide⟩ (Nat.le_of_ble_eq_true rfl) dX9_init_9 ?_
  rw [← q1 0 0 (by omega), zU_zU]
  refine v_w (show _ = zU (zU (fun _ _ => none) 6 0 (some (.inr (0, [.int 0, .ref t, .int 0])))) 0 0 (some (.inr (10, [.null, .null, .null, .null, .null, .null, .null, .null, .null, .null, .int 0, .int 0, .int 0, .int 0]))) from zU_comm _ _ _ (by omega)) ?_
  refine v_putF hB.nm (ci := 10) (k := 0) (ty := (.object "java/util/ArrayList")) tyX9 tyX9_ok nmX9 rfl inX9 (by decide) f_X9_10 rfl rfl rfl (by decide +kernel) rfl rfl (zU_s _ _ _ _) (Nat.le_of_ble_eq_true rfl) dX9_init_12 ?_
  refine v_w (show _ = zU (zU (fun _ _ => none) 6 0 (some (.inr (0, [.int 0, .ref t, .int 0])))) 0 0 (some (.inr (10, [.ref (b1 6 0), .null, .null, .null, .null, .null, .null, .null, .null, .null, .int 0, .int 0, .int 0, .int 0]))) from zU_zU _ _ _ _ _) ?_
  refine v_aload_n dX9_init_15 rfl ?_
  refine v_new (kk := 6) (ii := 1) (ci := 0) (fs := [.int 0, .null, .int 0]) hB tyJx4a65c tyJx4a65c_ok rfl inJx4a65c cl_X9_7 ins_Jx4a65c ini_Jx4a65c dfJx4a65c (show _ = none by rw [zU_n _ _ (by omega), zU_n _ _ (by omega)]) ⟨by decide, by decide⟩ dX9_init_16 (fun b2 q2 => ?_)
  refine v_dup dX9_init_19 rfl ?_
  refine v_cIv0 hB k_X9_9 (pJx4a65c_init (kk := 6) (ii := 1) hSt (zU_s _ _ _ _)) (by decide) ⟨by decide, by decide⟩ (Nat.le_of_ble_eq_true rfl) dX9_init_20 ?_
  rw [← q2 0 0 (by omega), zU_zU]
  refine v_w (show _ = zU (zU (zU (fun _ _ => none) 6 0 (some (.inr (0, [.int 0, .ref t, .int 0])))) 6 1 (some (.inr (0, [.int 0, .ref t, .int 0])))) 0 0 (some (.inr (10, [.ref (b1 6 0), .null, .null, .null, .null, .null, .null, .null, .null, .null, .int 0, .int 0, .int 0, .int 0]))) from zU_comm _ _ _ (by omega)) ?_
  refine v_putF hB.nm (ci := 10) (k := 1) (ty := (.object "java/util/ArrayList")) tyX9 tyX9_ok nmX9 rfl inX9 (by decide) f_X9_16 rfl rfl rfl (by decide +kernel) rfl rfl (zU_s _ _ _ _) (Nat.le_of_ble_eq_true rfl) dX9_init_23 ?_
  refine v_w (show _ = zU (zU (zU (fun _ _ => none) 6 0 (some (.inr (0, [.int 0, .ref t, .int 0])))) 6 1 (some (.inr (0, [.int 0, .ref t, .int 0])))) 0 0 (some (.inr (10, [.ref (b1 6 0), .ref (b2 6 1), .null, .null, .null, .null, .null, .null, .null, .null, .int 0, .int 0, .int 0, .int 0]))) from zU_zU _ _ _ _ _) ?_
  refine v_aload_n dX9_init_26 rfl ?_
  refine v_new (kk := 6) (ii := 2) (ci := 0) (fs := [.int 0, .null, .int 0]) hB tyJx4a65c tyJx4a65c_ok rfl inJx4a65c cl_X9_7 ins_Jx4a65c ini_Jx4a65c dfJx4a65c (show _ = none by rw [zU_n _ _ (by omega), zU_n _ _ (by omega), zU_n _ _ (by omega)]) ⟨by decide, by decide⟩ dX9_init_27 (fun b3 q3 => ?_)
  refine v_dup dX9_init_30 rfl ?_
  refine v_cIv0 hB k_X9_9 (pJx4a65c_init (kk := 6) (ii := 2) hSt (zU_s _ _ _ _)) (by decide) ⟨by decide, by decide⟩ (Nat.le_of_ble_eq_true rfl) dX9_init_31 ?_
  rw [← q3 0 0 (by omega), zU_zU]
  refine v_w (show _ = zU (zU (zU (zU (fun _ _ => none) 6 0 (some (.inr (0, [.int 0, .ref t, .int 0])))) 6 1 (some (.inr (0, [.int 0, .ref t, .int 0])))) 6 2 (some (.inr (0, [.int 0, .ref t, .int 0])))) 0 0 (some (.inr (10, [.ref (b1 6 0), .ref (b2 6 1), .null, .null, .null, .null, .null, .null, .null, .null, .int 0, .int 0, .int 0, .int 0]))) from zU_comm _ _ _ (by omega)) ?_
  refine v_putF hB.nm (ci := 10) (k := 2) (ty := (.object "java/util/ArrayList")) tyX9 tyX9_ok nmX9 rfl inX9 (by decide) f_X9_19 rfl rfl rfl (by decide +kernel) rfl rfl (zU_s _ _ _ _) (Nat.le_of_ble_eq_true rfl) dX9_init_34 ?_
  refine v_w (show _ = zU (zU (zU (zU (fun _ _ => none) 6 0 (some (.inr (0, [.int 0, .ref t, .int 0])))) 6 1 (some (.inr (0, [.int 0, .ref t, .int 0])))) 6 2 (some (.inr (0, [.int 0, .ref t, .int 0])))) 0 0 (some (.inr (10, [.ref (b1 6 0), .ref (b2 6 1), .ref (b3 6 2), .null, .null, .null, .null, .null, .null, .null, .int 0, .int 0, .int 0, .int 0]))) from zU_zU _ _ _ _ _) ?_
  refine v_aload_n dX9_init_37 rfl ?_
  refine v_new (kk := 6) (ii := 3) (ci := 0) (fs := [.int 0, .null, .int 0]) hB tyJx4a65c tyJx4a65c_ok rfl inJx4a65c cl_X9_7 ins_Jx4a65c ini_Jx4a65c dfJx4a65c (show _ = none by rw [zU_n _ _ (by omega), zU_n _ _ (by omega), zU_n _ _ (by omega), zU_n _ _ (by omega)]) ⟨by decide, by decide⟩ dX9_init_38 (fun b4 q4 => ?_)
  refine v_dup dX9_init_41 rfl ?_
  refine v_cIv0 hB k_X9_9 (pJx4a65c_init (kk := 6) (ii := 3) hSt (zU_s _ _ _ _)) (by decide) ⟨by decide, by decide⟩ (Nat.le_of_ble_eq_true rfl) dX9_init_42 ?_
  rw [← q4 0 0 (by omega), zU_zU]
  refine v_w (show _ = zU (zU (zU (zU (zU (fun _ _ => none) 6 0 (some (.inr (0, [.int 0, .ref t, .int 0])))) 6 1 (some (.inr (0, [.int 0, .ref t, .int 0])))) 6 2 (some (.inr (0, [.int 0, .ref t, .int 0])))) 6 3 (some (.inr (0, [.int 0, .ref t, .int 0])))) 0 0 (some (.inr (10, [.ref (b1 6 0), .ref (b2 6 1), .ref (b3 6 2), .null, .null, .null, .null, .null, .null, .null, .int 0, .int 0, .int 0, .int 0]))) from zU_comm _ _ _ (by omega)) ?_
  refine v_putF hB.nm (ci := 10) (k := 3) (ty := (.object "java/util/ArrayList")) tyX9 tyX9_ok nmX9 rfl inX9 (by decide) f_X9_22 rfl rfl rfl (by decide +kernel) rfl rfl (zU_s _ _ _ _) (Nat.le_of_ble_eq_true rfl) dX9_init_45 ?_
  refine v_w (show _ = zU (zU (zU (zU (zU (fun _ _ => none) 6 0 (some (.inr (0, [.int 0, .ref t, .int 0])))) 6 1 (some (.inr (0, [.int 0, .ref t, .int 0])))) 6 2 (some (.inr (0, [.int 0, .ref t, .int 0])))) 6 3 (some (.inr (0, [.int 0, .ref t, .int 0])))) 0 0 (some (.inr (10, [.ref (b1 6 0), .ref (b2 6 1), .ref (b3 6 2), .ref (b4 6 3), .null, .null, .null, .null, .null, .null, .int 0, .int 0, .int 0, .int 0]))) from zU_zU _ _ _ _ _) ?_
  refine v_aload_n dX9_init_48 rfl ?_
  refine v_new (kk := 6) (ii := 4) (ci := 0) (fs := [.int 0, .null, .int 0]) hB tyJx4a65c tyJx4a65c_ok rfl inJx4a65c cl_X9_7 ins_Jx4a65c ini_Jx4a65c dfJx4a65c (show _ = none by rw [zU_n _ _ (by omega), zU_n _ _ (by omega), zU_n _ _ (by omega), zU_n _ _ (by omega), zU_n _ _ (by omega)]) ⟨by decide, by decide⟩ dX9_init_49 (fun b5 q5 => ?_)
  refine v_dup dX9_init_52 rfl ?_
  refine v_cIv0 hB k_X9_9 (pJx4a65c_init (kk := 6) (ii := 4) hSt (zU_s _ _ _ _)) (by decide) ⟨by decide, by decide⟩ (Nat.le_of_ble_eq_true rfl) dX9_init_53 ?_
  rw [← q5 0 0 (by omega), zU_zU]
  refine v_w (show _ = zU (zU (zU (zU (zU (zU (fun _ _ => none) 6 0 (some (.inr (0, [.int 0, .ref t, .int 0])))) 6 1 (some (.inr (0, [.int 0, .ref t, .int 0])))) 6 2 (some (.inr (0, [.int 0, .ref t, .int 0])))) 6 3 (some (.inr (0, [.int 0, .ref t, .int 0])))) 6 4 (some (.inr (0, [.int 0, .ref t, .int 0])))) 0 0 (some (.inr (10, [.ref (b1 6 0), .ref (b2 6 1), .ref (b3 6 2), .ref (b4 6 3), .null, .null, .null, .null, .null, .null, .int 0, .int 0, .int 0, .int 0]))) from zU_comm _ _ _ (by omega)) ?_
  refine v_putF hB.nm (ci := 10) (k := 4) (ty := (.object "java/util/ArrayList")) tyX9 tyX9_ok nmX9 rfl inX9 (by decide) f_X9_25 rfl rfl rfl (by decide +kernel) rfl rfl (zU_s _ _ _ _) (Nat.le_of_ble_eq_true rfl) dX9_init_56 ?_
  refine v_w (show _ = zU (zU (zU (zU (zU (zU (fun _ _ => none) 6 0 (some (.inr (0, [.int 0, .ref t, .int 0])))) 6 1 (some (.inr (0, [.int 0, .ref t, .int 0])))) 6 2 (some (.inr (0, [.int 0, .ref t, .int 0])))) 6 3 (some (.inr (0, [.int 0, .ref t, .int 0])))) 6 4 (some (.inr (0, [.int 0, .ref t, .int 0])))) 0 0 (some (.inr (10, [.ref (b1 6 0), .ref (b2 6 1), .ref (b3 6 2), .ref (b4 6 3), .ref (b5 6 4), .null, .null, .null, .null, .null, .int 0, .int 0, .int 0, .int 0]))) from zU_zU _ _ _ _ _) ?_
  refine v_aload_n dX9_init_59 rfl ?_
  refine v_new (kk := 6) (ii := 5) (ci := 0) (fs := [.int 0, .null, .int 0]) hB tyJx4a65c tyJx4a65c_ok rfl inJx4a65c cl_X9_7 ins_Jx4a65c ini_Jx4a65c dfJx4a65c (show _ = none by rw [zU_n _ _ (by omega), zU_n _ _ (by omega), zU_n _ _ (by omega), zU_n _ _ (by omega), zU_n _ _ (by omega), zU_n _ _ (by omega)]) ⟨by decide, by decide⟩ dX9_init_60 (fun b6 q6 => ?_)
  refine v_dup dX9_init_63 rfl ?_
  refine v_cIv0 hB k_X9_9 (pJx4a65c_init (kk := 6) (ii := 5) hSt (zU_s _ _ _ _)) (by decide) ⟨by decide, by decide⟩ (Nat.le_of_ble_eq_true rfl) dX9_init_64 ?_
  rw [← q6 0 0 (by omega), zU_zU]
  refine v_w (show _ = zU (zU (zU (zU (zU (zU (zU (fun _ _ => none) 6 0 (some (.inr (0, [.int 0, .ref t, .int 0])))) 6 1 (some (.inr (0, [.int 0, .ref t, .int 0])))) 6 2 (some (.inr (0, [.int 0, .ref t, .int 0])))) 6 3 (some (.inr (0, [.int 0, .ref t, .int 0])))) 6 4 (some (.inr (0, [.int 0, .ref t, .int 0])))) 6 5 (some (.inr (0, [.int 0, .ref t, .int 0])))) 0 0 (some (.inr (10, [.ref (b1 6 0), .ref (b2 6 1), .ref (b3 6 2), .ref (b4 6 3), .ref (b5 6 4), .null, .null, .null, .null, .null, .int 0, .int 0, .int 0, .int 0]))) from zU_comm _ _ _ (by omega)) ?_
  refine v_putF hB.nm (ci := 10) (k := 5) (ty := (.object "java/util/ArrayList")) tyX9 tyX9_ok nmX9 rfl inX9 (by decide) f_X9_28 rfl rfl rfl (by decide +kernel) rfl rfl (zU_s _ _ _ _) (Nat.le_of_ble_eq_true rfl) dX9_init_67 ?_
  refine v_w (show _ = zU (zU (zU (zU (zU (zU (zU (fun _ _ => none) 6 0 (some (.inr (0, [.int 0, .ref t, .int 0])))) 6 1 (some (.inr (0, [.int 0, .ref t, .int 0])))) 6 2 (some (.inr (0, [.int 0, .ref t, .int 0])))) 6 3 (some (.inr (0, [.int 0, .ref t, .int 0])))) 6 4 (some (.inr (0, [.int 0, .ref t, .int 0])))) 6 5 (some (.inr (0, [.int 0, .ref t, .int 0])))) 0 0 (some (.inr (10, [.ref (b1 6 0), .ref (b2 6 1), .ref (b3 6 2), .ref (b4 6 3), .ref (b5 6 4), .ref (b6 6 5), .null, .null, .null, .null, .int 0, .int 0, .int 0, .int 0]))) from zU_zU _ _ _ _ _) ?_
  refine v_aload_n dX9_init_70 rfl ?_
  refine v_new (kk := 1) (ii := 0) (ci := 9) (fs := [.null]) hB tyX8 tyX8_ok rfl inX8 cl_X9_31 ins_X8 ini_X8 dfX8 (show _ = none by rw [zU_n _ _ (by omega), zU_n _ _ (by omega), zU_n _ _ (by omega), zU_n _ _ (by omega), zU_n _ _ (by omega), zU_n _ _ (by omega), zU_n _ _ (by omega)]) ⟨by decide, by decide⟩ dX9_init_71 (fun b7 q7 => ?_)
  refine v_dup dX9_init_74 rfl ?_
  refine v_callIN (As := []) hB lw_nX8 kn_X8 rfl ⟨by decide, by decide, by decide⟩ (iX8 (zU_s _ _ _ _) (fun a b y => by rw [zU_n _ _ (by omega), zU_n _ _ (by omega), zU_n _ _ (by omega), zU_n _ _ (by omega), zU_n _ _ (by omega), zU_n _ _ (by omega), zU_n _ _ (by omega), zU_n _ _ (by omega)])) rfl (by decide) ⟨by decide, by decide⟩ (Nat.le_of_ble_eq_true rfl) dX9_init_75 ?_
  rintro r b8 w2 ⟨rfl, q8, rfl⟩
  show V X RX9 cX9_init 1 none _ _ b8 _ 78 _ [.ref (b7 1 0), .ref (b6 0 0)]
  rw [← q7 0 0 (by omega), ← q8 0 0 (by omega), ← q8 1 0 (by omega)]
  refine v_w (show _ = zU (zU (zU (zU (zU (zU (zU (zU (zU (fun _ _ => none) 6 0 (some (.inr (0, [.int 0, .ref t, .int 0])))) 6 1 (some (.inr (0, [.int 0, .ref t, .int 0])))) 6 2 (some (.inr (0, [.int 0, .ref t, .int 0])))) 6 3 (some (.inr (0, [.int 0, .ref t, .int 0])))) 6 4 (some (.inr (0, [.int 0, .ref t, .int 0])))) 6 5 (some (.inr (0, [.int 0, .ref t, .int 0])))) 5 0 (some (.inl (cy 1, 3001, .inl (fun _ => 0))))) 1 0 (some (.inr (9, [.ref (b8 5 0)])))) 0 0 (some (.inr (10, [.ref (b1 6 0), .ref (b2 6 1), .ref (b3 6 2), .ref (b4 6 3), .ref (b5 6 4), .ref (b6 6 5), .null, .null, .null, .null, .int 0, .int 0, .int 0, .int 0]))) from ?_) ?_
  · funext a b; unfold zU; by_cases e0 : a = 0 ∧ b = 0
    · simp [e0.1, e0.2]
    · by_cases e1 : a = 1 ∧ b = 0
      · simp [e1.1, e1.2]
      · simp [e0, e1]
  refine v_putF hB.nm (ci := 10) (k := 6) (ty := (.object "CinnamonPeelers$Weather")) tyX9 tyX9_ok nmX9 rfl inX9 (by decide) f_X9_34 rfl rfl rfl (by decide +kernel) rfl rfl (zU_s _ _ _ _) (Nat.le_of_ble_eq_true rfl) dX9_init_78 ?_
  refine v_w (show _ = zU (zU (zU (zU (zU (zU (zU (zU (zU (fun _ _ => none) 6 0 (some (.inr (0, [.int 0, .ref t, .int 0])))) 6 1 (some (.inr (0, [.int 0, .ref t, .int 0])))) 6 2 (some (.inr (0, [.int 0, .ref t, .int 0])))) 6 3 (some (.inr (0, [.int 0, .ref t, .int 0])))) 6 4 (some (.inr (0, [.int 0, .ref t, .int 0])))) 6 5 (some (.inr (0, [.int 0, .ref t, .int 0])))) 5 0 (some (.inl (cy 1, 3001, .inl (fun _ => 0))))) 1 0 (some (.inr (9, [.ref (b8 5 0)])))) 0 0 (some (.inr (10, [.ref (b1 6 0), .ref (b2 6 1), .ref (b3 6 2), .ref (b4 6 3), .ref (b5 6 4), .ref (b6 6 5), .ref (b8 1 0), .null, .null, .null, .int 0, .int 0, .int 0, .int 0]))) from zU_zU _ _ _ _ _) ?_
  refine v_aload_n dX9_init_81 rfl ?_
  refine v_new (kk := 2) (ii := 0) (ci := 5) (fs := [.null, .null, .null, .null, .null, .null, .int 0, .int 0]) hB tyX4 tyX4_ok rfl inX4 cl_X9_38 ins_X4 ini_X4 dfX4 (show _ = none by rw [zU_n _ _ (by omega), zU_n _ _ (by omega), zU_n _ _ (by omega), zU_n _ _ (by omega), zU_n _ _ (by omega), zU_n _ _ (by omega), zU_n _ _ (by omega), zU_n _ _ (by omega), zU_n _ _ (by omega)]) ⟨by decide, by decide⟩ dX9_init_82 (fun b9 q9 => ?_)
  refine v_dup dX9_init_85 rfl ?_
  refine v_callIN (As := []) hB lw_nX4 kn_X4 rfl ⟨by decide, by decide, by decide⟩ (iX4 (zU_s _ _ _ _) (fun a b y => by rw [zU_n _ _ (by omega), zU_n _ _ (by omega), zU_n _ _ (by omega), zU_n _ _ (by omega), zU_n _ _ (by omega), zU_n _ _ (by omega), zU_n _ _ (by omega), zU_n _ _ (by omega), zU_n _ _ (by omega), zU_n _ _ (by omega)])) rfl (by decide) ⟨by decide, by decide⟩ (Nat.le_of_ble_eq_true rfl) dX9_init_86 ?_
  rintro r b10 w2 ⟨rfl, q10, rfl⟩
  show V X RX9 cX9_init 1 none _ _ b10 _ 89 _ [.ref (b9 2 0), .ref (b8 0 0)]
  rw [← q9 0 0 (by omega), ← q10 0 0 (by omega), ← q10 2 0 (by omega)]
  refine v_w (show _ = zU (zU (zU (zU (zU (zU (zU (zU (zU (zU (zU (zU (zU (zU (zU (zU (fun _ _ => none) 6 0 (some (.inr (0, [.int 0, .ref t, .int 0])))) 6 1 (some (.inr (0, [.int 0, .ref t, .int 0])))) 6 2 (some (.inr (0, [.int 0, .ref t, .int 0])))) 6 3 (some (.inr (0, [.int 0, .ref t, .int 0])))) 6 4 (some (.inr (0, [.int 0, .ref t, .int 0])))) 6 5 (some (.inr (0, [.int 0, .ref t, .int 0])))) 5 0 (some (.inl (cy 1, 3001, .inl (fun _ => 0))))) 1 0 (some (.inr (9, [.ref (b8 5 0)])))) 4 1 (some (.inl (cy 0, 30, .inl (fun _ => 0))))) 4 2 (some (.inl (cy 0, 30, .inl (fun _ => 0))))) 4 3 (some (.inl (cy 0, 30, .inl (fun _ => 0))))) 4 4 (some (.inl (cy 0, 1891, .inl (fun _ => 0))))) 4 5 (some (.inl (cy 0, 4, .inl (fun _ => 0))))) 4 6 (some (.inl (cy 0, 4, .inl (fun _ => 0))))) 2 0 (some (.inr (5, [.ref (b10 4 1), .ref (b10 4 2), .ref (b10 4 3), .ref (b10 4 4), .ref (b10 4 5), .ref (b10 4 6), .int 0, .int 0])))) 0 0 (some (.inr (10, [.ref (b1 6 0), .ref (b2 6 1), .ref (b3 6 2), .ref (b4 6 3), .ref (b5 6 4), .ref (b6 6 5), .ref (b8 1 0), .null, .null, .null, .int 0, .int 0, .int 0, .int 0]))) from ?_) ?_
  · funext a b; unfold zU; by_cases e0 : a = 0 ∧ b = 0
    · simp [e0.1, e0.2]
    · by_cases e1 : a = 2 ∧ b = 0
      · simp [e1.1, e1.2]
      · simp [e0, e1]
  refine v_putF hB.nm (ci := 10) (k := 7) (ty := (.object "CinnamonPeelers$Joiner")) tyX9 tyX9_ok nmX9 rfl inX9 (by decide) f_X9_41 rfl rfl rfl (by decide +kernel) rfl rfl (zU_s _ _ _ _) (Nat.le_of_ble_eq_true rfl) dX9_init_89 ?_
  refine v_w (show _ = zU (zU (zU (zU (zU (zU (zU (zU (zU (zU (zU (zU (zU (zU (zU (zU (fun _ _ => none) 6 0 (some (.inr (0, [.int 0, .ref t, .int 0])))) 6 1 (some (.inr (0, [.int 0, .ref t, .int 0])))) 6 2 (some (.inr (0, [.int 0, .ref t, .int 0])))) 6 3 (some (.inr (0, [.int 0, .ref t, .int 0])))) 6 4 (some (.inr (0, [.int 0, .ref t, .int 0])))) 6 5 (some (.inr (0, [.int 0, .ref t, .int 0])))) 5 0 (some (.inl (cy 1, 3001, .inl (fun _ => 0))))) 1 0 (some (.inr (9, [.ref (b8 5 0)])))) 4 1 (some (.inl (cy 0, 30, .inl (fun _ => 0))))) 4 2 (some (.inl (cy 0, 30, .inl (fun _ => 0))))) 4 3 (some (.inl (cy 0, 30, .inl (fun _ => 0))))) 4 4 (some (.inl (cy 0, 1891, .inl (fun _ => 0))))) 4 5 (some (.inl (cy 0, 4, .inl (fun _ => 0))))) 4 6 (some (.inl (cy 0, 4, .inl (fun _ => 0))))) 2 0 (some (.inr (5, [.ref (b10 4 1), .ref (b10 4 2), .ref (b10 4 3), .ref (b10 4 4), .ref (b10 4 5), .ref (b10 4 6), .int 0, .int 0])))) 0 0 (some (.inr (10, [.ref (b1 6 0), .ref (b2 6 1), .ref (b3 6 2), .ref (b4 6 3), .ref (b5 6 4), .ref (b6 6 5), .ref (b8 1 0), .ref (b10 2 0), .null, .null, .int 0, .int 0, .int 0, .int 0]))) from zU_zU _ _ _ _ _) ?_
  refine v_aload_n dX9_init_92 rfl ?_
  refine v_new (kk := 3) (ii := 0) (ci := 6) (fs := [.null, .null, .null, .null, .int 0, .int 0, .int 0]) hB tyX5 tyX5_ok rfl inX5 cl_X9_45 ins_X5 ini_X5 dfX5 (show _ = none by rw [zU_n _ _ (by omega), zU_n _ _ (by omega), zU_n _ _ (by omega), zU_n _ _ (by omega), zU_n _ _ (by omega), zU_n _ _ (by omega), zU_n _ _ (by omega), zU_n _ _ (by omega), zU_n _ _ (by omega), zU_n _ _ (by omega), zU_n _ _ (by omega), zU_n _ _ (by omega), zU_n _ _ (by omega), zU_n _ _ (by omega), zU_n _ _ (by omega), zU_n _ _ (by omega)]) ⟨by decide, by decide⟩ dX9_init_93 (fun b11 q11 => ?_)
  refine v_dup dX9_init_96 rfl ?_
  refine v_callIN (As := []) hB lw_nX5 kn_X5 rfl ⟨by decide, by decide, by decide⟩ (iX5 (zU_s _ _ _ _) (fun a b y => by rw [zU_n _ _ (by omega), zU_n _ _ (by omega), zU_n _ _ (by omega), zU_n _ _ (by omega), zU_n _ _ (by omega), zU_n _ _ (by omega), zU_n _ _ (by omega), zU_n _ _ (by omega), zU_n _ _ (by omega), zU_n _ _ (by omega), zU_n _ _ (by omega), zU_n _ _ (by omega), zU_n _ _ (by omega), zU_n _ _ (by omega), zU_n _ _ (by omega), zU_n _ _ (by omega), zU_n _ _ (by omega)])) rfl (by decide) ⟨by decide, by decide⟩ (Nat.le_of_ble_eq_true rfl) dX9_init_97 ?_
  rintro r b12 w2 ⟨rfl, q12, rfl⟩
  show V X RX9 cX9_init 1 none _ _ b12 _ 100 _ [.ref (b11 3 0), .ref (b10 0 0)]
  rw [← q11 0 0 (by omega), ← q12 0 0 (by omega), ← q12 3 0 (by omega)]
  refine v_w (show _ = zU (zU (zU (zU (zU (zU (zU (zU (zU (zU (zU (zU (zU (zU (zU (zU (zU (zU (zU (zU (zU (fun _ _ => none) 6 0 (some (.inr (0, [.int 0, .ref t, .int 0])))) 6 1 (some (.inr (0, [.int 0, .ref t, .int 0])))) 6 2 (some (.inr (0, [.int 0, .ref t, .int 0])))) 6 3 (some (.inr (0, [.int 0, .ref t, .int 0])))) 6 4 (some (.inr (0, [.int 0, .ref t, .int 0])))) 6 5 (some (.inr (0, [.int 0, .ref t, .int 0])))) 5 0 (some (.inl (cy 1, 3001, .inl (fun _ => 0))))) 1 0 (some (.inr (9, [.ref (b8 5 0)])))) 4 1 (some (.inl (cy 0, 30, .inl (fun _ => 0))))) 4 2 (some (.inl (cy 0, 30, .inl (fun _ => 0))))) 4 3 (some (.inl (cy 0, 30, .inl (fun _ => 0))))) 4 4 (some (.inl (cy 0, 1891, .inl (fun _ => 0))))) 4 5 (some (.inl (cy 0, 4, .inl (fun _ => 0))))) 4 6 (some (.inl (cy 0, 4, .inl (fun _ => 0))))) 2 0 (some (.inr (5, [.ref (b10 4 1), .ref (b10 4 2), .ref (b10 4 3), .ref (b10 4 4), .ref (b10 4 5), .ref (b10 4 6), .int 0, .int 0])))) 4 7 (some (.inl (cy 0, 12, .inl (fun _ => 0))))) 4 8 (some (.inl (cy 0, 793, .inl (fun _ => 0))))) 4 9 (some (.inl (cy 0, 13, .inl (fun _ => 0))))) 4 10 (some (.inl (cy 0, 4096, .inl (fun _ => 0))))) 3 0 (some (.inr (6, [.ref (b12 4 7), .ref (b12 4 8), .ref (b12 4 9), .ref (b12 4 10), .int 0, .int 0, .int 0])))) 0 0 (some (.inr (10, [.ref (b1 6 0), .ref (b2 6 1), .ref (b3 6 2), .ref (b4 6 3), .ref (b5 6 4), .ref (b6 6 5), .ref (b8 1 0), .ref (b10 2 0), .null, .null, .int 0, .int 0, .int 0, .int 0]))) from ?_) ?_
  · funext a b; unfold zU; by_cases e0 : a = 0 ∧ b = 0
    · simp [e0.1, e0.2]
    · by_cases e1 : a = 3 ∧ b = 0
      · simp [e1.1, e1.2]
      · simp [e0, e1]
  refine v_putF hB.nm (ci := 10) (k := 8) (ty := (.object "CinnamonPeelers$Packer")) tyX9 tyX9_ok nmX9 rfl inX9 (by decide) f_X9_48 rfl rfl rfl (by decide +kernel) rfl rfl (zU_s _ _ _ _) (Nat.le_of_ble_eq_true rfl) dX9_init_100 ?_
  refine v_w (show _ = zU (zU (zU (zU (zU (zU (zU (zU (zU (zU (zU (zU (zU (zU (zU (zU (zU (zU (zU (zU (zU (fun _ _ => none) 6 0 (some (.inr (0, [.int 0, .ref t, .int 0])))) 6 1 (some (.inr (0, [.int 0, .ref t, .int 0])))) 6 2 (some (.inr (0, [.int 0, .ref t, .int 0])))) 6 3 (some (.inr (0, [.int 0, .ref t, .int 0])))) 6 4 (some (.inr (0, [.int 0, .ref t, .int 0])))) 6 5 (some (.inr (0, [.int 0, .ref t, .int 0])))) 5 0 (some (.inl (cy 1, 3001, .inl (fun _ => 0))))) 1 0 (some (.inr (9, [.ref (b8 5 0)])))) 4 1 (some (.inl (cy 0, 30, .inl (fun _ => 0))))) 4 2 (some (.inl (cy 0, 30, .inl (fun _ => 0))))) 4 3 (some (.inl (cy 0, 30, .inl (fun _ => 0))))) 4 4 (some (.inl (cy 0, 1891, .inl (fun _ => 0))))) 4 5 (some (.inl (cy 0, 4, .inl (fun _ => 0))))) 4 6 (some (.inl (cy 0, 4, .inl (fun _ => 0))))) 2 0 (some (.inr (5, [.ref (b10 4 1), .ref (b10 4 2), .ref (b10 4 3), .ref (b10 4 4), .ref (b10 4 5), .ref (b10 4 6), .int 0, .int 0])))) 4 7 (some (.inl (cy 0, 12, .inl (fun _ => 0))))) 4 8 (some (.inl (cy 0, 793, .inl (fun _ => 0))))) 4 9 (some (.inl (cy 0, 13, .inl (fun _ => 0))))) 4 10 (some (.inl (cy 0, 4096, .inl (fun _ => 0))))) 3 0 (some (.inr (6, [.ref (b12 4 7), .ref (b12 4 8), .ref (b12 4 9), .ref (b12 4 10), .int 0, .int 0, .int 0])))) 0 0 (some (.inr (10, [.ref (b1 6 0), .ref (b2 6 1), .ref (b3 6 2), .ref (b4 6 3), .ref (b5 6 4), .ref (b6 6 5), .ref (b8 1 0), .ref (b10 2 0), .ref (b12 3 0), .null, .int 0, .int 0, .int 0, .int 0]))) from zU_zU _ _ _ _ _) ?_
  refine v_aload_n dX9_init_103 rfl ?_
  refine v_iconst_v (v := 5) dX9_init_104 (by decide) ?_
  refine v_newa (kk := 4) (ii := 0) (t := 0) (N := 5) hB ac_int (Or.inl ⟨rfl, rfl⟩) (by decide) (by decide) (show _ = none by rw [zU_n _ _ (by omega), zU_n _ _ (by omega), zU_n _ _ (by omega), zU_n _ _ (by omega), zU_n _ _ (by omega), zU_n _ _ (by omega), zU_n _ _ (by omega), zU_n _ _ (by omega), zU_n _ _ (by omega), zU_n _ _ (by omega), zU_n _ _ (by omega), zU_n _ _ (by omega), zU_n _ _ (by omega), zU_n _ _ (by omega), zU_n _ _ (by omega), zU_n _ _ (by omega), zU_n _ _ (by omega), zU_n _ _ (by omega), zU_n _ _ (by omega), zU_n _ _ (by omega), zU_n _ _ (by omega)]) ⟨by decide, by decide⟩ dX9_init_105 (fun b13 q13 => ?_)
  refine v_dup dX9_init_107 rfl ?_
  refine v_iconst_v (v := 0) dX9_init_108 (by decide) ?_
  refine v_iconst_v (v := 0) dX9_init_109 (by decide) ?_
  refine v_iast (kk := 4) (ii := 0) (n := 5) (f := (fun _ => 0)) (show zU _ 4 0 _ 4 0 = _ by rw [zU_s, hB.cy]) (by unfold vp_in; decide) dX9_init_110 ?_
  rw [zU_zU, hB.cy]
  refine v_w (show _ = zU (zU (zU (zU (zU (zU (zU (zU (zU (zU (zU (zU (zU (zU (zU (zU (zU (zU (zU (zU (zU (zU (fun _ _ => none) 6 0 (some (.inr (0, [.int 0, .ref t, .int 0])))) 6 1 (some (.inr (0, [.int 0, .ref t, .int 0])))) 6 2 (some (.inr (0, [.int 0, .ref t, .int 0])))) 6 3 (some (.inr (0, [.int 0, .ref t, .int 0])))) 6 4 (some (.inr (0, [.int 0, .ref t, .int 0])))) 6 5 (some (.inr (0, [.int 0, .ref t, .int 0])))) 5 0 (some (.inl (cy 1, 3001, .inl (fun _ => 0))))) 1 0 (some (.inr (9, [.ref (b8 5 0)])))) 4 1 (some (.inl (cy 0, 30, .inl (fun _ => 0))))) 4 2 (some (.inl (cy 0, 30, .inl (fun _ => 0))))) 4 3 (some (.inl (cy 0, 30, .inl (fun _ => 0))))) 4 4 (some (.inl (cy 0, 1891, .inl (fun _ => 0))))) 4 5 (some (.inl (cy 0, 4, .inl (fun _ => 0))))) 4 6 (some (.inl (cy 0, 4, .inl (fun _ => 0))))) 2 0 (some (.inr (5, [.ref (b10 4 1), .ref (b10 4 2), .ref (b10 4 3), .ref (b10 4 4), .ref (b10 4 5), .ref (b10 4 6), .int 0, .int 0])))) 4 7 (some (.inl (cy 0, 12, .inl (fun _ => 0))))) 4 8 (some (.inl (cy 0, 793, .inl (fun _ => 0))))) 4 9 (some (.inl (cy 0, 13, .inl (fun _ => 0))))) 4 10 (some (.inl (cy 0, 4096, .inl (fun _ => 0))))) 3 0 (some (.inr (6, [.ref (b12 4 7), .ref (b12 4 8), .ref (b12 4 9), .ref (b12 4 10), .int 0, .int 0, .int 0])))) 0 0 (some (.inr (10, [.ref (b1 6 0), .ref (b2 6 1), .ref (b3 6 2), .ref (b4 6 3), .ref (b5 6 4), .ref (b6 6 5), .ref (b8 1 0), .ref (b10 2 0), .ref (b12 3 0), .null, .int 0, .int 0, .int 0, .int 0])))) 4 0 (some (.inl (cy 0, 5, .inl (upd (fun _ => 0) 0 0)))) from rfl) ?_
  refine v_dup dX9_init_111 rfl ?_
  refine v_iconst_v (v := 1) dX9_init_112 (by decide) ?_
  refine v_bipush_v (v := 100) dX9_init_113 (by decide) ?_
  refine v_iast (kk := 4) (ii := 0) (n := 5) (f := (upd (fun _ => 0) 0 0)) (show zU _ 4 0 _ 4 0 = _ by rw [zU_s, hB.cy]) (by unfold vp_in; decide) dX9_init_115 ?_
  rw [zU_zU, hB.cy]
  refine v_w (show _ = zU (zU (zU (zU (zU (zU (zU (zU (zU (zU (zU (zU (zU (zU (zU (zU (zU (zU (zU (zU (zU (zU (fun _ _ => none) 6 0 (some (.inr (0, [.int 0, .ref t, .int 0])))) 6 1 (some (.inr (0, [.int 0, .ref t, .int 0])))) 6 2 (some (.inr (0, [.int 0, .ref t, .int 0])))) 6 3 (some (.inr (0, [.int 0, .ref t, .int 0])))) 6 4 (some (.inr (0, [.int 0, .ref t, .int 0])))) 6 5 (some (.inr (0, [.int 0, .ref t, .int 0])))) 5 0 (some (.inl (cy 1, 3001, .inl (fun _ => 0))))) 1 0 (some (.inr (9, [.ref (b8 5 0)])))) 4 1 (some (.inl (cy 0, 30, .inl (fun _ => 0))))) 4 2 (some (.inl (cy 0, 30, .inl (fun _ => 0))))) 4 3 (some (.inl (cy 0, 30, .inl (fun _ => 0))))) 4 4 (some (.inl (cy 0, 1891, .inl (fun _ => 0))))) 4 5 (some (.inl (cy 0, 4, .inl (fun _ => 0))))) 4 6 (some (.inl (cy 0, 4, .inl (fun _ => 0))))) 2 0 (some (.inr (5, [.ref (b10 4 1), .ref (b10 4 2), .ref (b10 4 3), .ref (b10 4 4), .ref (b10 4 5), .ref (b10 4 6), .int 0, .int 0])))) 4 7 (some (.inl (cy 0, 12, .inl (fun _ => 0))))) 4 8 (some (.inl (cy 0, 793, .inl (fun _ => 0))))) 4 9 (some (.inl (cy 0, 13, .inl (fun _ => 0))))) 4 10 (some (.inl (cy 0, 4096, .inl (fun _ => 0))))) 3 0 (some (.inr (6, [.ref (b12 4 7), .ref (b12 4 8), .ref (b12 4 9), .ref (b12 4 10), .int 0, .int 0, .int 0])))) 0 0 (some (.inr (10, [.ref (b1 6 0), .ref (b2 6 1), .ref (b3 6 2), .ref (b4 6 3), .ref (b5 6 4), .ref (b6 6 5), .ref (b8 1 0), .ref (b10 2 0), .ref (b12 3 0), .null, .int 0, .int 0, .int 0, .int 0])))) 4 0 (some (.inl (cy 0, 5, .inl (upd (upd (fun _ => 0) 0 0) 1 100)))) from rfl) ?_
  refine v_dup dX9_init_116 rfl ?_
  refine v_iconst_v (v := 2) dX9_init_117 (by decide) ?_
  refine v_bipush_v (v := 100) dX9_init_118 (by decide) ?_
  refine v_iast (kk := 4) (ii := 0) (n := 5) (f := (upd (upd (fun _ => 0) 0 0) 1 100)) (show zU _ 4 0 _ 4 0 = _ by rw [zU_s, hB.cy]) (by unfold vp_in; decide) dX9_init_120 ?_
  rw [zU_zU, hB.cy]
  refine v_w (show _ = zU (zU (zU (zU (zU (zU (zU (zU (zU (zU (zU (zU (zU (zU (zU (zU (zU (zU (zU (zU (zU (zU (fun _ _ => none) 6 0 (some (.inr (0, [.int 0, .ref t, .int 0])))) 6 1 (some (.inr (0, [.int 0, .ref t, .int 0])))) 6 2 (some (.inr (0, [.int 0, .ref t, .int 0])))) 6 3 (some (.inr (0, [.int 0, .ref t, .int 0])))) 6 4 (some (.inr (0, [.int 0, .ref t, .int 0])))) 6 5 (some (.inr (0, [.int 0, .ref t, .int 0])))) 5 0 (some (.inl (cy 1, 3001, .inl (fun _ => 0))))) 1 0 (some (.inr (9, [.ref (b8 5 0)])))) 4 1 (some (.inl (cy 0, 30, .inl (fun _ => 0))))) 4 2 (some (.inl (cy 0, 30, .inl (fun _ => 0))))) 4 3 (some (.inl (cy 0, 30, .inl (fun _ => 0))))) 4 4 (some (.inl (cy 0, 1891, .inl (fun _ => 0))))) 4 5 (some (.inl (cy 0, 4, .inl (fun _ => 0))))) 4 6 (some (.inl (cy 0, 4, .inl (fun _ => 0))))) 2 0 (some (.inr (5, [.ref (b10 4 1), .ref (b10 4 2), .ref (b10 4 3), .ref (b10 4 4), .ref (b10 4 5), .ref (b10 4 6), .int 0, .int 0])))) 4 7 (some (.inl (cy 0, 12, .inl (fun _ => 0))))) 4 8 (some (.inl (cy 0, 793, .inl (fun _ => 0))))) 4 9 (some (.inl (cy 0, 13, .inl (fun _ => 0))))) 4 10 (some (.inl (cy 0, 4096, .inl (fun _ => 0))))) 3 0 (some (.inr (6, [.ref (b12 4 7), .ref (b12 4 8), .ref (b12 4 9), .ref (b12 4 10), .int 0, .int 0, .int 0])))) 0 0 (some (.inr (10, [.ref (b1 6 0), .ref (b2 6 1), .ref (b3 6 2), .ref (b4 6 3), .ref (b5 6 4), .ref (b6 6 5), .ref (b8 1 0), .ref (b10 2 0), .ref (b12 3 0), .null, .int 0, .int 0, .int 0, .int 0])))) 4 0 (some (.inl (cy 0, 5, .inl (upd (upd (upd (fun _ => 0) 0 0) 1 100) 2 100)))) from rfl) ?_
  refine v_dup dX9_init_121 rfl ?_
  refine v_iconst_v (v := 3) dX9_init_122 (by decide) ?_
  refine v_bipush_v (v := 100) dX9_init_123 (by decide) ?_
  refine v_iast (kk := 4) (ii := 0) (n := 5) (f := (upd (upd (upd (fun _ => 0) 0 0) 1 100) 2 100)) (show zU _ 4 0 _ 4 0 = _ by rw [zU_s, hB.cy]) (by unfold vp_in; decide) dX9_init_125 ?_
  rw [zU_zU, hB.cy]
  refine v_w (show _ = zU (zU (zU (zU (zU (zU (zU (zU (zU (zU (zU (zU (zU (zU (zU (zU (zU (zU (zU (zU (zU (zU (fun _ _ => none) 6 0 (some (.inr (0, [.int 0, .ref t, .int 0])))) 6 1 (some (.inr (0, [.int 0, .ref t, .int 0])))) 6 2 (some (.inr (0, [.int 0, .ref t, .int 0])))) 6 3 (some (.inr (0, [.int 0, .ref t, .int 0])))) 6 4 (some (.inr (0, [.int 0, .ref t, .int 0])))) 6 5 (some (.inr (0, [.int 0, .ref t, .int 0])))) 5 0 (some (.inl (cy 1, 3001, .inl (fun _ => 0))))) 1 0 (some (.inr (9, [.ref (b8 5 0)])))) 4 1 (some (.inl (cy 0, 30, .inl (fun _ => 0))))) 4 2 (some (.inl (cy 0, 30, .inl (fun _ => 0))))) 4 3 (some (.inl (cy 0, 30, .inl (fun _ => 0))))) 4 4 (some (.inl (cy 0, 1891, .inl (fun _ => 0))))) 4 5 (some (.inl (cy 0, 4, .inl (fun _ => 0))))) 4 6 (some (.inl (cy 0, 4, .inl (fun _ => 0))))) 2 0 (some (.inr (5, [.ref (b10 4 1), .ref (b10 4 2), .ref (b10 4 3), .ref (b10 4 4), .ref (b10 4 5), .ref (b10 4 6), .int 0, .int 0])))) 4 7 (some (.inl (cy 0, 12, .inl (fun _ => 0))))) 4 8 (some (.inl (cy 0, 793, .inl (fun _ => 0))))) 4 9 (some (.inl (cy 0, 13, .inl (fun _ => 0))))) 4 10 (some (.inl (cy 0, 4096, .inl (fun _ => 0))))) 3 0 (some (.inr (6, [.ref (b12 4 7), .ref (b12 4 8), .ref (b12 4 9), .ref (b12 4 10), .int 0, .int 0, .int 0])))) 0 0 (some (.inr (10, [.ref (b1 6 0), .ref (b2 6 1), .ref (b3 6 2), .ref (b4 6 3), .ref (b5 6 4), .ref (b6 6 5), .ref (b8 1 0), .ref (b10 2 0), .ref (b12 3 0), .null, .int 0, .int 0, .int 0, .int 0])))) 4 0 (some (.inl (cy 0, 5, .inl (upd (upd (upd (upd (fun _ => 0) 0 0) 1 100) 2 100) 3 100)))) from rfl) ?_
  refine v_dup dX9_init_126 rfl ?_
  refine v_iconst_v (v := 4) dX9_init_127 (by decide) ?_
  refine v_bipush_v (v := 100) dX9_init_128 (by decide) ?_
  refine v_iast (kk := 4) (ii := 0) (n := 5) (f := (upd (upd (upd (upd (fun _ => 0) 0 0) 1 100) 2 100) 3 100)) (show zU _ 4 0 _ 4 0 = _ by rw [zU_s, hB.cy]) (by unfold vp_in; decide) dX9_init_130 ?_
  rw [zU_zU, hB.cy]
  refine v_w (show _ = zU (zU (zU (zU (zU (zU (zU (zU (zU (zU (zU (zU (zU (zU (zU (zU (zU (zU (zU (zU (zU (zU (fun _ _ => none) 6 0 (some (.inr (0, [.int 0, .ref t, .int 0])))) 6 1 (some (.inr (0, [.int 0, .ref t, .int 0])))) 6 2 (some (.inr (0, [.int 0, .ref t, .int 0])))) 6 3 (some (.inr (0, [.int 0, .ref t, .int 0])))) 6 4 (some (.inr (0, [.int 0, .ref t, .int 0])))) 6 5 (some (.inr (0, [.int 0, .ref t, .int 0])))) 5 0 (some (.inl (cy 1, 3001, .inl (fun _ => 0))))) 1 0 (some (.inr (9, [.ref (b8 5 0)])))) 4 1 (some (.inl (cy 0, 30, .inl (fun _ => 0))))) 4 2 (some (.inl (cy 0, 30, .inl (fun _ => 0))))) 4 3 (some (.inl (cy 0, 30, .inl (fun _ => 0))))) 4 4 (some (.inl (cy 0, 1891, .inl (fun _ => 0))))) 4 5 (some (.inl (cy 0, 4, .inl (fun _ => 0))))) 4 6 (some (.inl (cy 0, 4, .inl (fun _ => 0))))) 2 0 (some (.inr (5, [.ref (b10 4 1), .ref (b10 4 2), .ref (b10 4 3), .ref (b10 4 4), .ref (b10 4 5), .ref (b10 4 6), .int 0, .int 0])))) 4 7 (some (.inl (cy 0, 12, .inl (fun _ => 0))))) 4 8 (some (.inl (cy 0, 793, .inl (fun _ => 0))))) 4 9 (some (.inl (cy 0, 13, .inl (fun _ => 0))))) 4 10 (some (.inl (cy 0, 4096, .inl (fun _ => 0))))) 3 0 (some (.inr (6, [.ref (b12 4 7), .ref (b12 4 8), .ref (b12 4 9), .ref (b12 4 10), .int 0, .int 0, .int 0])))) 0 0 (some (.inr (10, [.ref (b1 6 0), .ref (b2 6 1), .ref (b3 6 2), .ref (b4 6 3), .ref (b5 6 4), .ref (b6 6 5), .ref (b8 1 0), .ref (b10 2 0), .ref (b12 3 0), .null, .int 0, .int 0, .int 0, .int 0])))) 4 0 (some (.inl (cy 0, 5, .inl (upd (upd (upd (upd (upd (fun _ => 0) 0 0) 1 100) 2 100) 3 100) 4 100)))) from rfl) ?_
  rw [← q13 0 0 (by omega)]
  refine v_w (show _ = zU (zU (zU (zU (zU (zU (zU (zU (zU (zU (zU (zU (zU (zU (zU (zU (zU (zU (zU (zU (zU (zU (fun _ _ => none) 6 0 (some (.inr (0, [.int 0, .ref t, .int 0])))) 6 1 (some (.inr (0, [.int 0, .ref t, .int 0])))) 6 2 (some (.inr (0, [.int 0, .ref t, .int 0])))) 6 3 (some (.inr (0, [.int 0, .ref t, .int 0])))) 6 4 (some (.inr (0, [.int 0, .ref t, .int 0])))) 6 5 (some (.inr (0, [.int 0, .ref t, .int 0])))) 5 0 (some (.inl (cy 1, 3001, .inl (fun _ => 0))))) 1 0 (some (.inr (9, [.ref (b8 5 0)])))) 4 1 (some (.inl (cy 0, 30, .inl (fun _ => 0))))) 4 2 (some (.inl (cy 0, 30, .inl (fun _ => 0))))) 4 3 (some (.inl (cy 0, 30, .inl (fun _ => 0))))) 4 4 (some (.inl (cy 0, 1891, .inl (fun _ => 0))))) 4 5 (some (.inl (cy 0, 4, .inl (fun _ => 0))))) 4 6 (some (.inl (cy 0, 4, .inl (fun _ => 0))))) 2 0 (some (.inr (5, [.ref (b10 4 1), .ref (b10 4 2), .ref (b10 4 3), .ref (b10 4 4), .ref (b10 4 5), .ref (b10 4 6), .int 0, .int 0])))) 4 7 (some (.inl (cy 0, 12, .inl (fun _ => 0))))) 4 8 (some (.inl (cy 0, 793, .inl (fun _ => 0))))) 4 9 (some (.inl (cy 0, 13, .inl (fun _ => 0))))) 4 10 (some (.inl (cy 0, 4096, .inl (fun _ => 0))))) 3 0 (some (.inr (6, [.ref (b12 4 7), .ref (b12 4 8), .ref (b12 4 9), .ref (b12 4 10), .int 0, .int 0, .int 0])))) 4 0 (some (.inl (cy 0, 5, .inl (upd (upd (upd (upd (upd (fun _ => 0) 0 0) 1 100) 2 100) 3 100) 4 100))))) 0 0 (some (.inr (10, [.ref (b1 6 0), .ref (b2 6 1), .ref (b3 6 2), .ref (b4 6 3), .ref (b5 6 4), .ref (b6 6 5), .ref (b8 1 0), .ref (b10 2 0), .ref (b12 3 0), .null, .int 0, .int 0, .int 0, .int 0]))) from zU_comm _ _ _ (by omega)) ?_
  refine v_putF hB.nm (ci := 10) (k := 9) (ty := (.array .int)) tyX9 tyX9_ok nmX9 rfl inX9 (by decide) f_X9_52 rfl rfl rfl (by decide +kernel) rfl rfl (zU_s _ _ _ _) (Nat.le_of_ble_eq_true rfl) dX9_init_131 ?_
  refine v_w (show _ = zU (zU (zU (zU (zU (zU (zU (zU (zU (zU (zU (zU (zU (zU (zU (zU (zU (zU (zU (zU (zU (zU (fun _ _ => none) 6 0 (some (.inr (0, [.int 0, .ref t, .int 0])))) 6 1 (some (.inr (0, [.int 0, .ref t, .int 0])))) 6 2 (some (.inr (0, [.int 0, .ref t, .int 0])))) 6 3 (some (.inr (0, [.int 0, .ref t, .int 0])))) 6 4 (some (.inr (0, [.int 0, .ref t, .int 0])))) 6 5 (some (.inr (0, [.int 0, .ref t, .int 0])))) 5 0 (some (.inl (cy 1, 3001, .inl (fun _ => 0))))) 1 0 (some (.inr (9, [.ref (b8 5 0)])))) 4 1 (some (.inl (cy 0, 30, .inl (fun _ => 0))))) 4 2 (some (.inl (cy 0, 30, .inl (fun _ => 0))))) 4 3 (some (.inl (cy 0, 30, .inl (fun _ => 0))))) 4 4 (some (.inl (cy 0, 1891, .inl (fun _ => 0))))) 4 5 (some (.inl (cy 0, 4, .inl (fun _ => 0))))) 4 6 (some (.inl (cy 0, 4, .inl (fun _ => 0))))) 2 0 (some (.inr (5, [.ref (b10 4 1), .ref (b10 4 2), .ref (b10 4 3), .ref (b10 4 4), .ref (b10 4 5), .ref (b10 4 6), .int 0, .int 0])))) 4 7 (some (.inl (cy 0, 12, .inl (fun _ => 0))))) 4 8 (some (.inl (cy 0, 793, .inl (fun _ => 0))))) 4 9 (some (.inl (cy 0, 13, .inl (fun _ => 0))))) 4 10 (some (.inl (cy 0, 4096, .inl (fun _ => 0))))) 3 0 (some (.inr (6, [.ref (b12 4 7), .ref (b12 4 8), .ref (b12 4 9), .ref (b12 4 10), .int 0, .int 0, .int 0])))) 4 0 (some (.inl (cy 0, 5, .inl (upd (upd (upd (upd (upd (fun _ => 0) 0 0) 1 100) 2 100) 3 100) 4 100))))) 0 0 (some (.inr (10, [.ref (b1 6 0), .ref (b2 6 1), .ref (b3 6 2), .ref (b4 6 3), .ref (b5 6 4), .ref (b6 6 5), .ref (b8 1 0), .ref (b10 2 0), .ref (b12 3 0), .ref (b13 4 0), .int 0, .int 0, .int 0, .int 0]))) from zU_zU _ _ _ _ _) ?_
  refine v_aload_n dX9_init_134 rfl ?_
  refine v_bipush_v (v := 42) dX9_init_135 (by decide) ?_
  refine v_put (ci := 10) (k := 10) (ty := .int) tyX9 tyX9_ok nmX9 rfl inX9 (by decide) f_X9_56 rfl rfl (by decide +kernel) rfl rfl (zU_s _ _ _ _) (Nat.le_of_ble_eq_true rfl) dX9_init_137 ?_
  refine v_w (show _ = zU (zU (zU (zU (zU (zU (zU (zU (zU (zU (zU (zU (zU (zU (zU (zU (zU (zU (zU (zU (zU (zU (fun _ _ => none) 6 0 (some (.inr (0, [.int 0, .ref t, .int 0])))) 6 1 (some (.inr (0, [.int 0, .ref t, .int 0])))) 6 2 (some (.inr (0, [.int 0, .ref t, .int 0])))) 6 3 (some (.inr (0, [.int 0, .ref t, .int 0])))) 6 4 (some (.inr (0, [.int 0, .ref t, .int 0])))) 6 5 (some (.inr (0, [.int 0, .ref t, .int 0])))) 5 0 (some (.inl (cy 1, 3001, .inl (fun _ => 0))))) 1 0 (some (.inr (9, [.ref (b8 5 0)])))) 4 1 (some (.inl (cy 0, 30, .inl (fun _ => 0))))) 4 2 (some (.inl (cy 0, 30, .inl (fun _ => 0))))) 4 3 (some (.inl (cy 0, 30, .inl (fun _ => 0))))) 4 4 (some (.inl (cy 0, 1891, .inl (fun _ => 0))))) 4 5 (some (.inl (cy 0, 4, .inl (fun _ => 0))))) 4 6 (some (.inl (cy 0, 4, .inl (fun _ => 0))))) 2 0 (some (.inr (5, [.ref (b10 4 1), .ref (b10 4 2), .ref (b10 4 3), .ref (b10 4 4), .ref (b10 4 5), .ref (b10 4 6), .int 0, .int 0])))) 4 7 (some (.inl (cy 0, 12, .inl (fun _ => 0))))) 4 8 (some (.inl (cy 0, 793, .inl (fun _ => 0))))) 4 9 (some (.inl (cy 0, 13, .inl (fun _ => 0))))) 4 10 (some (.inl (cy 0, 4096, .inl (fun _ => 0))))) 3 0 (some (.inr (6, [.ref (b12 4 7), .ref (b12 4 8), .ref (b12 4 9), .ref (b12 4 10), .int 0, .int 0, .int 0])))) 4 0 (some (.inl (cy 0, 5, .inl (upd (upd (upd (upd (upd (fun _ => 0) 0 0) 1 100) 2 100) 3 100) 4 100))))) 0 0 (some (.inr (10, [.ref (b1 6 0), .ref (b2 6 1), .ref (b3 6 2), .ref (b4 6 3), .ref (b5 6 4), .ref (b6 6 5), .ref (b8 1 0), .ref (b10 2 0), .ref (b12 3 0), .ref (b13 4 0), .int 42, .int 0, .int 0, .int 0]))) from zU_zU _ _ _ _ _) ?_
  refine v_aload_n dX9_init_140 rfl ?_
  refine v_iconst_v (v := 2) dX9_init_141 (by decide) ?_
  refine v_put (ci := 10) (k := 11) (ty := .int) tyX9 tyX9_ok nmX9 rfl inX9 (by decide) f_X9_60 rfl rfl (by decide +kernel) rfl rfl (zU_s _ _ _ _) (Nat.le_of_ble_eq_true rfl) dX9_init_142 ?_
  refine v_w (show _ = zU (zU (zU (zU (zU (zU (zU (zU (zU (zU (zU (zU (zU (zU (zU (zU (zU (zU (zU (zU (zU (zU (fun _ _ => none) 6 0 (some (.inr (0, [.int 0, .ref t, .int 0])))) 6 1 (some (.inr (0, [.int 0, .ref t, .int 0])))) 6 2 (some (.inr (0, [.int 0, .ref t, .int 0])))) 6 3 (some (.inr (0, [.int 0, .ref t, .int 0])))) 6 4 (some (.inr (0, [.int 0, .ref t, .int 0])))) 6 5 (some (.inr (0, [.int 0, .ref t, .int 0])))) 5 0 (some (.inl (cy 1, 3001, .inl (fun _ => 0))))) 1 0 (some (.inr (9, [.ref (b8 5 0)])))) 4 1 (some (.inl (cy 0, 30, .inl (fun _ => 0))))) 4 2 (some (.inl (cy 0, 30, .inl (fun _ => 0))))) 4 3 (some (.inl (cy 0, 30, .inl (fun _ => 0))))) 4 4 (some (.inl (cy 0, 1891, .inl (fun _ => 0))))) 4 5 (some (.inl (cy 0, 4, .inl (fun _ => 0))))) 4 6 (some (.inl (cy 0, 4, .inl (fun _ => 0))))) 2 0 (some (.inr (5, [.ref (b10 4 1), .ref (b10 4 2), .ref (b10 4 3), .ref (b10 4 4), .ref (b10 4 5), .ref (b10 4 6), .int 0, .int 0])))) 4 7 (some (.inl (cy 0, 12, .inl (fun _ => 0))))) 4 8 (some (.inl (cy 0, 793, .inl (fun _ => 0))))) 4 9 (some (.inl (cy 0, 13, .inl (fun _ => 0))))) 4 10 (some (.inl (cy 0, 4096, .inl (fun _ => 0))))) 3 0 (some (.inr (6, [.ref (b12 4 7), .ref (b12 4 8), .ref (b12 4 9), .ref (b12 4 10), .int 0, .int 0, .int 0])))) 4 0 (some (.inl (cy 0, 5, .inl (upd (upd (upd (upd (upd (fun _ => 0) 0 0) 1 100) 2 100) 3 100) 4 100))))) 0 0 (some (.inr (10, [.ref (b1 6 0), .ref (b2 6 1), .ref (b3 6 2), .ref (b4 6 3), .ref (b5 6 4), .ref (b6 6 5), .ref (b8 1 0), .ref (b10 2 0), .ref (b12 3 0), .ref (b13 4 0), .int 42, .int 2, .int 0, .int 0]))) from zU_zU _ _ _ _ _) ?_
  refine v_aload_n dX9_init_145 rfl ?_
  refine v_iconst_v (v := 0) dX9_init_146 (by decide) ?_
  refine v_put (ci := 10) (k := 12) (ty := .int) tyX9 tyX9_ok nmX9 rfl inX9 (by decide) f_X9_63 rfl rfl (by decide +kernel) rfl rfl (zU_s _ _ _ _) (Nat.le_of_ble_eq_true rfl) dX9_init_147 ?_
  refine v_w (show _ = zU (zU (zU (zU (zU (zU (zU (zU (zU (zU (zU (zU (zU (zU (zU (zU (zU (zU (zU (zU (zU (zU (fun _ _ => none) 6 0 (some (.inr (0, [.int 0, .ref t, .int 0])))) 6 1 (some (.inr (0, [.int 0, .ref t, .int 0])))) 6 2 (some (.inr (0, [.int 0, .ref t, .int 0])))) 6 3 (some (.inr (0, [.int 0, .ref t, .int 0])))) 6 4 (some (.inr (0, [.int 0, .ref t, .int 0])))) 6 5 (some (.inr (0, [.int 0, .ref t, .int 0])))) 5 0 (some (.inl (cy 1, 3001, .inl (fun _ => 0))))) 1 0 (some (.inr (9, [.ref (b8 5 0)])))) 4 1 (some (.inl (cy 0, 30, .inl (fun _ => 0))))) 4 2 (some (.inl (cy 0, 30, .inl (fun _ => 0))))) 4 3 (some (.inl (cy 0, 30, .inl (fun _ => 0))))) 4 4 (some (.inl (cy 0, 1891, .inl (fun _ => 0))))) 4 5 (some (.inl (cy 0, 4, .inl (fun _ => 0))))) 4 6 (some (.inl (cy 0, 4, .inl (fun _ => 0))))) 2 0 (some (.inr (5, [.ref (b10 4 1), .ref (b10 4 2), .ref (b10 4 3), .ref (b10 4 4), .ref (b10 4 5), .ref (b10 4 6), .int 0, .int 0])))) 4 7 (some (.inl (cy 0, 12, .inl (fun _ => 0))))) 4 8 (some (.inl (cy 0, 793, .inl (fun _ => 0))))) 4 9 (some (.inl (cy 0, 13, .inl (fun _ => 0))))) 4 10 (some (.inl (cy 0, 4096, .inl (fun _ => 0))))) 3 0 (some (.inr (6, [.ref (b12 4 7), .ref (b12 4 8), .ref (b12 4 9), .ref (b12 4 10), .int 0, .int 0, .int 0])))) 4 0 (some (.inl (cy 0, 5, .inl (upd (upd (upd (upd (upd (fun _ => 0) 0 0) 1 100) 2 100) 3 100) 4 100))))) 0 0 (some (.inr (10, [.ref (b1 6 0), .ref (b2 6 1), .ref (b3 6 2), .ref (b4 6 3), .ref (b5 6 4), .ref (b6 6 5), .ref (b8 1 0), .ref (b10 2 0), .ref (b12 3 0), .ref (b13 4 0), .int 42, .int 2, .int 0, .int 0]))) from zU_zU _ _ _ _ _) ?_
  refine v_aload_n dX9_init_150 rfl ?_
  refine v_iconst_v (v := 0) dX9_init_151 (by decide) ?_
  refine v_put (ci := 10) (k := 13) (ty := .int) tyX9 tyX9_ok nmX9 rfl inX9 (by decide) f_X9_66 rfl rfl (by decide +kernel) rfl rfl (zU_s _ _ _ _) (Nat.le_of_ble_eq_true rfl) dX9_init_152 ?_
  refine v_w (show _ = zU (zU (zU (zU (zU (zU (zU (zU (zU (zU (zU (zU (zU (zU (zU (zU (zU (zU (zU (zU (zU (zU (fun _ _ => none) 6 0 (some (.inr (0, [.int 0, .ref t, .int 0])))) 6 1 (some (.inr (0, [.int 0, .ref t, .int 0])))) 6 2 (some (.inr (0, [.int 0, .ref t, .int 0])))) 6 3 (some (.inr (0, [.int 0, .ref t, .int 0])))) 6 4 (some (.inr (0, [.int 0, .ref t, .int 0])))) 6 5 (some (.inr (0, [.int 0, .ref t, .int 0])))) 5 0 (some (.inl (cy 1, 3001, .inl (fun _ => 0))))) 1 0 (some (.inr (9, [.ref (b8 5 0)])))) 4 1 (some (.inl (cy 0, 30, .inl (fun _ => 0))))) 4 2 (some (.inl (cy 0, 30, .inl (fun _ => 0))))) 4 3 (some (.inl (cy 0, 30, .inl (fun _ => 0))))) 4 4 (some (.inl (cy 0, 1891, .inl (fun _ => 0))))) 4 5 (some (.inl (cy 0, 4, .inl (fun _ => 0))))) 4 6 (some (.inl (cy 0, 4, .inl (fun _ => 0))))) 2 0 (some (.inr (5, [.ref (b10 4 1), .ref (b10 4 2), .ref (b10 4 3), .ref (b10 4 4), .ref (b10 4 5), .ref (b10 4 6), .int 0, .int 0])))) 4 7 (some (.inl (cy 0, 12, .inl (fun _ => 0))))) 4 8 (some (.inl (cy 0, 793, .inl (fun _ => 0))))) 4 9 (some (.inl (cy 0, 13, .inl (fun _ => 0))))) 4 10 (some (.inl (cy 0, 4096, .inl (fun _ => 0))))) 3 0 (some (.inr (6, [.ref (b12 4 7), .ref (b12 4 8), .ref (b12 4 9), .ref (b12 4 10), .int 0, .int 0, .int 0])))) 4 0 (some (.inl (cy 0, 5, .inl (upd (upd (upd (upd (upd (fun _ => 0) 0 0) 1 100) 2 100) 3 100) 4 100))))) 0 0 (some (.inr (10, [.ref (b1 6 0), .ref (b2 6 1), .ref (b3 6 2), .ref (b4 6 3), .ref (b5 6 4), .ref (b6 6 5), .ref (b8 1 0), .ref (b10 2 0), .ref (b12 3 0), .ref (b13 4 0), .int 42, .int 2, .int 0, .int 0]))) from zU_zU _ _ _ _ _) ?_
  have r_6_0 : b13 6 0 = b1 6 0 := by rw [q13 6 0 (by omega), q12 6 0 (by omega), q11 6 0 (by omega), q10 6 0 (by omega), q9 6 0 (by omega), q8 6 0 (by omega), q7 6 0 (by omega), q6 6 0 (by omega), q5 6 0 (by omega), q4 6 0 (by omega), q3 6 0 (by omega), q2 6 0 (by omega)]
  have r_6_1 : b13 6 1 = b2 6 1 := by rw [q13 6 1 (by omega), q12 6 1 (by omega), q11 6 1 (by omega), q10 6 1 (by omega), q9 6 1 (by omega), q8 6 1 (by omega), q7 6 1 (by omega), q6 6 1 (by omega), q5 6 1 (by omega), q4 6 1 (by omega), q3 6 1 (by omega)]
  have r_6_2 : b13 6 2 = b3 6 2 := by rw [q13 6 2 (by omega), q12 6 2 (by omega), q11 6 2 (by omega), q10 6 2 (by omega), q9 6 2 (by omega), q8 6 2 (by omega), q7 6 2 (by omega), q6 6 2 (by omega), q5 6 2 (by omega), q4 6 2 (by omega)]
  have r_6_3 : b13 6 3 = b4 6 3 := by rw [q13 6 3 (by omega), q12 6 3 (by omega), q11 6 3 (by omega), q10 6 3 (by omega), q9 6 3 (by omega), q8 6 3 (by omega), q7 6 3 (by omega), q6 6 3 (by omega), q5 6 3 (by omega)]
  have r_6_4 : b13 6 4 = b5 6 4 := by rw [q13 6 4 (by omega), q12 6 4 (by omega), q11 6 4 (by omega), q10 6 4 (by omega), q9 6 4 (by omega), q8 6 4 (by omega), q7 6 4 (by omega), q6 6 4 (by omega)]
  have r_6_5 : b13 6 5 = b6 6 5 := by rw [q13 6 5 (by omega), q12 6 5 (by omega), q11 6 5 (by omega), q10 6 5 (by omega), q9 6 5 (by omega), q8 6 5 (by omega), q7 6 5 (by omega)]
  have r_1_0 : b13 1 0 = b8 1 0 := by rw [q13 1 0 (by omega), q12 1 0 (by omega), q11 1 0 (by omega), q10 1 0 (by omega), q9 1 0 (by omega)]
  have r_5_0 : b13 5 0 = b8 5 0 := by rw [q13 5 0 (by omega), q12 5 0 (by omega), q11 5 0 (by omega), q10 5 0 (by omega), q9 5 0 (by omega)]
  have r_2_0 : b13 2 0 = b10 2 0 := by rw [q13 2 0 (by omega), q12 2 0 (by omega), q11 2 0 (by omega)]
  have r_4_1 : b13 4 1 = b10 4 1 := by rw [q13 4 1 (by omega), q12 4 1 (by omega), q11 4 1 (by omega)]
  have r_4_2 : b13 4 2 = b10 4 2 := by rw [q13 4 2 (by omega), q12 4 2 (by omega), q11 4 2 (by omega)]
  have r_4_3 : b13 4 3 = b10 4 3 := by rw [q13 4 3 (by omega), q12 4 3 (by omega), q11 4 3 (by omega)]
  have r_4_4 : b13 4 4 = b10 4 4 := by rw [q13 4 4 (by omega), q12 4 4 (by omega), q11 4 4 (by omega)]
  have r_4_5 : b13 4 5 = b10 4 5 := by rw [q13 4 5 (by omega), q12 4 5 (by omega), q11 4 5 (by omega)]
  have r_4_6 : b13 4 6 = b10 4 6 := by rw [q13 4 6 (by omega), q12 4 6 (by omega), q11 4 6 (by omega)]
  have r_3_0 : b13 3 0 = b12 3 0 := by rw [q13 3 0 (by omega)]
  have r_4_7 : b13 4 7 = b12 4 7 := by rw [q13 4 7 (by omega)]
  have r_4_8 : b13 4 8 = b12 4 8 := by rw [q13 4 8 (by omega)]
  have r_4_9 : b13 4 9 = b12 4 9 := by rw [q13 4 9 (by omega)]
  have r_4_10 : b13 4 10 = b12 4 10 := by rw [q13 4 10 (by omega)]
  have e00 : b13 0 0 = ad 0 0 := by rw [q13 0 0 (by omega), q12 0 0 (by omega), q11 0 0 (by omega), q10 0 0 (by omega), q9 0 0 (by omega), q8 0 0 (by omega), q7 0 0 (by omega), q6 0 0 (by omega), q5 0 0 (by omega), q4 0 0 (by omega), q3 0 0 (by omega), q2 0 0 (by omega), q1 0 0 (by omega)]
  refine v_ad (ad2 := fun k i => if k = 7 then t else b13 k i) (fun k i hk => ?_) ?_
  · by_cases e7 : k = 7
    · exact absurd (by rw [e7]; rw [zU_n _ _ (by omega), zU_n _ _ (by omega), zU_n _ _ (by omega), zU_n _ _ (by omega), zU_n _ _ (by omega), zU_n _ _ (by omega), zU_n _ _ (by omega), zU_n _ _ (by omega), zU_n _ _ (by omega), zU_n _ _ (by omega), zU_n _ _ (by omega), zU_n _ _ (by omega), zU_n _ _ (by omega), zU_n _ _ (by omega), zU_n _ _ (by omega), zU_n _ _ (by omega), zU_n _ _ (by omega), zU_n _ _ (by omega), zU_n _ _ (by omega), zU_n _ _ (by omega), zU_n _ _ (by omega), zU_n _ _ (by omega)]) hk
    · exact if_neg e7
  refine v_vret hB (by decide) (by decide) dX9_init_155 ⟨rfl, ?_, ?_, ?_⟩
  · show (if 0 = 7 then t else b13 0 0) = ad 0 0
    rw [if_neg (by decide)]; exact e00
  · funext a b
    rcases (by omega : a = 0 ∨ a = 1 ∨ a = 2 ∨ a = 3 ∨ a = 4 ∨ a = 5 ∨ a = 6 ∨ a = 7 ∨ a = 8 ∨ a = 9 ∨ a = 10 ∨ a = 11 ∨ a = 12 ∨ a = 13 ∨ a = 14 ∨ 14 < a) with rfl | rfl | rfl | rfl | rfl | rfl | rfl | rfl | rfl | rfl | rfl | rfl | rfl | rfl | rfl | h
    · rw [xA0]; by_cases hb : b = 0
      · subst hb; simp [zU, r_6_0, r_6_1, r_6_2, r_6_3, r_6_4, r_6_5, r_1_0, r_5_0, r_2_0, r_4_1, r_4_2, r_4_3, r_4_4, r_4_5, r_4_6, r_3_0, r_4_7, r_4_8, r_4_9, r_4_10, sc0, upd]
      · simp [zU, hb]
    · rw [xA1]; by_cases hb : b = 0
      · subst hb; simp [zU, r_6_0, r_6_1, r_6_2, r_6_3, r_6_4, r_6_5, r_1_0, r_5_0, r_2_0, r_4_1, r_4_2, r_4_3, r_4_4, r_4_5, r_4_6, r_3_0, r_4_7, r_4_8, r_4_9, r_4_10, sc0, upd]
      · simp [zU, hb]
    · rw [xA2]; by_cases hb : b = 0
      · subst hb; simp [zU, r_6_0, r_6_1, r_6_2, r_6_3, r_6_4, r_6_5, r_1_0, r_5_0, r_2_0, r_4_1, r_4_2, r_4_3, r_4_4, r_4_5, r_4_6, r_3_0, r_4_7, r_4_8, r_4_9, r_4_10, sc0, upd]
      · simp [zU, hb]
    · rw [xA3]; by_cases hb : b = 0
      · subst hb; simp [zU, r_6_0, r_6_1, r_6_2, r_6_3, r_6_4, r_6_5, r_1_0, r_5_0, r_2_0, r_4_1, r_4_2, r_4_3, r_4_4, r_4_5, r_4_6, r_3_0, r_4_7, r_4_8, r_4_9, r_4_10, sc0, upd]
      · simp [zU, hb]
    · rcases (by omega : b = 0 ∨ b = 1 ∨ b = 2 ∨ b = 3 ∨ b = 4 ∨ b = 5 ∨ b = 6 ∨ b = 7 ∨ b = 8 ∨ b = 9 ∨ b = 10 ∨ 10 < b) with rfl | rfl | rfl | rfl | rfl | rfl | rfl | rfl | rfl | rfl | rfl | hb
      · rw [xA4]; simp [zU, xLen]; funext i; rcases (by omega : i = 0 ∨ i = 1 ∨ i = 2 ∨ i = 3 ∨ i = 4 ∨ 4 < i) with rfl | rfl | rfl | rfl | rfl | hi
        · simp [ar0, upd]
        · simp [ar0, upd]
        · simp [ar0, upd]
        · simp [ar0, upd]
        · simp [ar0, upd]
        · simp [ar0, upd, show ¬ i = 0 by omega, show ¬ i = 1 by omega, show ¬ i = 2 by omega, show ¬ i = 3 by omega, show ¬ i = 4 by omega, show ¬ (1 ≤ i ∧ i < 5) by omega]; try omega
      · rw [xA4]; simp [zU, xLen]
      · rw [xA4]; simp [zU, xLen]
      · rw [xA4]; simp [zU, xLen]
      · rw [xA4]; simp [zU, xLen]
      · rw [xA4]; simp [zU, xLen]
      · rw [xA4]; simp [zU, xLen]
      · rw [xA4]; simp [zU, xLen]
      · rw [xA4]; simp [zU, xLen]
      · rw [xA4]; simp [zU, xLen]
      · rw [xA4]; simp [zU, xLen]
      · rw [xA4, if_neg (by omega)]; simp [zU, show ¬ b = 0 by omega, show ¬ b = 1 by omega, show ¬ b = 2 by omega, show ¬ b = 3 by omega, show ¬ b = 4 by omega, show ¬ b = 5 by omega, show ¬ b = 6 by omega, show ¬ b = 7 by omega, show ¬ b = 8 by omega, show ¬ b = 9 by omega, show ¬ b = 10 by omega]
    · rw [xA5]; by_cases hb : b = 0
      · subst hb; simp [zU, r_6_0, r_6_1, r_6_2, r_6_3, r_6_4, r_6_5, r_1_0, r_5_0, r_2_0, r_4_1, r_4_2, r_4_3, r_4_4, r_4_5, r_4_6, r_3_0, r_4_7, r_4_8, r_4_9, r_4_10, sc0, upd]; funext i; exact (if_neg (by omega)).symm
      · simp [zU, hb]
    · rcases (by omega : b = 0 ∨ b = 1 ∨ b = 2 ∨ b = 3 ∨ b = 4 ∨ b = 5 ∨ 5 < b) with rfl | rfl | rfl | rfl | rfl | rfl | hb
      · rw [xA6]; simp [zU]; rfl
      · rw [xA6]; simp [zU]; rfl
      · rw [xA6]; simp [zU]; rfl
      · rw [xA6]; simp [zU]; rfl
      · rw [xA6]; simp [zU]; rfl
      · rw [xA6]; simp [zU]; rfl
      · rw [xA6, if_neg (by omega)]; simp [zU, show ¬ b = 0 by omega, show ¬ b = 1 by omega, show ¬ b = 2 by omega, show ¬ b = 3 by omega, show ¬ b = 4 by omega, show ¬ b = 5 by omega]
    · rw [xA7]; simp [zU]
    · rw [xA8]; simp [zU]
    · rw [xA9]; simp [zU]
    · rw [xA10]; simp [zU]
    · rw [xA11]; simp [zU]
    · rw [xA12]; simp [zU]
    · rw [xA13]; simp [zU]
    · rw [xA14]; simp [zU]
    · rw [xA_big h]; simp [zU, show ¬ a = 0 by omega, show ¬ a = 1 by omega, show ¬ a = 2 by omega, show ¬ a = 3 by omega, show ¬ a = 4 by omega, show ¬ a = 5 by omega, show ¬ a = 6 by omega]
  · intro k hk _; show zSt s0 (if 7 = 7 then t else _); rw [if_pos rfl]; exact hSt
