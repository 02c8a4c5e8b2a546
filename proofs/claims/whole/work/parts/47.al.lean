theorem zU_none {w : zW} {k i : Nat} (h : w k i = none) : zU w k i none = w := by
  funext a b; unfold zU; by_cases e : a = k ∧ b = i
  · rw [if_pos e, e.1, e.2, h]
  · rw [if_neg e]
theorem zU_comm (w : zW) {k i k2 i2 : Nat} (a b : Option va_E) (h : ¬ (k = k2 ∧ i = i2)) : zU (zU w k i a) k2 i2 b = zU (zU w k2 i2 b) k i a := by
  funext x y; unfold zU
  by_cases e : x = k ∧ y = i
  · have e2 : ¬ (x = k2 ∧ y = i2) := fun z => h ⟨e.1.symm.trans z.1, e.2.symm.trans z.2⟩
    rw [if_neg e2, if_pos e, if_pos e]
  · by_cases e2 : x = k2 ∧ y = i2
    · rw [if_pos e2, if_neg e, if_pos e2]
    · rw [if_neg e2, if_neg e, if_neg e, if_neg e2]
theorem f_al_7 : Cond.fieldLink RJxc12de 7 "java/util/AbstractList" (TJx4a65c 0).2.1 (TJx4a65c 0).2.2.1 ∈ gt := gt_of 100 (by decide +kernel) (by decide +kernel)
theorem sf_al : Cond.sameField "java/util/ArrayList" (TJx4a65c 0).1 (TJx4a65c 0).2.1 (TJx4a65c 0).2.2.1 ∈ gt := gt_of 102 (by decide +kernel) (by decide +kernel)
theorem f_al_39 : Cond.fieldLink RJx4a65c 39 "java/util/ArrayList" zSn zSd ∈ gt := gt_of 96 (by decide +kernel) (by decide +kernel)
theorem kc_200 : Cond.constant RJ8 200 2147483639 ∈ gt := gt_of 283 (by decide +kernel) (by decide +kernel)
theorem cl_J7_110 : Cond.classLink RJ7 110 "[Ljava/lang/Object;" ∈ gt := gt_of 310 (by decide +kernel) (by decide +kernel)
theorem cl_J7_2 : Cond.classLink RJ7 2 "java/lang/Object" ∈ gt := gt_of 312 (by decide +kernel) (by decide +kernel)
theorem cl_al_7 : Cond.classLink RJx4a65c 7 "java/lang/Object" ∈ gt := gt_of 320 (by decide +kernel) (by decide +kernel)
theorem gc_l : Cond.methodLink RJ7 86 ⟨"java/lang/Object", "getClass", "()Ljava/lang/Class;"⟩ ∈ gt := gt_of 290 (by decide +kernel) (by decide +kernel)
theorem gc_i : Cond.instanceMethod ⟨"java/lang/Object", "getClass", "()Ljava/lang/Class;"⟩ ∈ gt := gt_of 291 (by decide +kernel) (by decide +kernel)
set_option maxHeartbeats 4000000 in
set_option maxRecDepth 100000 in
theorem iX2 {l : Launch} {D : va_G} {cy : Nat → ClassId} {s0 : State} {ad : zA} {w : zW} {kk ii : Nat} {a : Int32} (hw : w kk ii = some (.inr (3, [.int 0, .int 0, .int 0, .int 0]))) : zM l D cy s0 yX2_init cX2_init 2 none 2 0 0 [.ref (ad kk ii), .int a] ad w (zPv ad (zU w kk ii (some (.inr (3, [.int a, .int 0, .int 0, .int 0]))))) := by
  refine zM_of (own := RX2) rfl (by decide) (by simp [Value.category]) (Nat.le_of_ble_eq_true rfl) ?_
  intro X hB
  show V X RX2 cX2_init 2 none 0 0 ad w 0 [some (.ref (ad kk ii)), some (.int a)] []
  refine v_aload_n dX2_init_0 rfl ?_
  refine v_obj hB o_X2_1 o_inst o_code (by decide) (Nat.le_of_ble_eq_true rfl) dX2_init_1 ?_
  refine v_aload_n dX2_init_4 rfl ?_
  refine v_iload_n dX2_init_5 rfl ?_
  refine v_putF hB.nm (ci := 3) (k := 0) (ty := .int) tyX2 tyX2_ok nmX2 rfl inX2 (by decide) f_X2_7 rfl rfl rfl (by decide +kernel) rfl rfl hw (Nat.le_of_ble_eq_true rfl) dX2_init_6 ?_
  refine v_w (show _ = zU w kk ii (some (.inr (3, [.int a, .int 0, .int 0, .int 0]))) from rfl) ?_
  skip
  exact v_vret hB (by decide) (by decide) dX2_init_9 ⟨rfl, rfl, rfl⟩
set_option maxHeartbeats 4000000 in
set_option maxRecDepth 100000 in
theorem iX3 {l : Launch} {D : va_G} {cy : Nat → ClassId} {s0 : State} {ad : zA} {w : zW} {kk ii : Nat} {a : Int32} (hw : w kk ii = some (.inr (4, [.int 0]))) : zM l D cy s0 yX3_init cX3_init 2 none 2 0 0 [.ref (ad kk ii), .int a] ad w (zPv ad (zU w kk ii (some (.inr (4, [.int a]))))) := by
  refine zM_of (own := RX3) rfl (by decide) (by simp [Value.category]) (Nat.le_of_ble_eq_true rfl) ?_
  intro X hB
  show V X RX3 cX3_init 2 none 0 0 ad w 0 [some (.ref (ad kk ii)), some (.int a)] []
  refine v_aload_n dX3_init_0 rfl ?_
  refine v_obj hB o_X3_3 o_inst o_code (by decide) (Nat.le_of_ble_eq_true rfl) dX3_init_1 ?_
  refine v_aload_n dX3_init_4 rfl ?_
  refine v_iload_n dX3_init_5 rfl ?_
  refine v_putF hB.nm (ci := 4) (k := 0) (ty := .int) tyX3 tyX3_ok nmX3 rfl inX3 (by decide) f_X3_9 rfl rfl rfl (by decide +kernel) rfl rfl hw (Nat.le_of_ble_eq_true rfl) dX3_init_6 ?_
  refine v_w (show _ = zU w kk ii (some (.inr (4, [.int a]))) from rfl) ?_
  skip
  exact v_vret hB (by decide) (by decide) dX3_init_9 ⟨rfl, rfl, rfl⟩
set_option maxHeartbeats 4000000 in
set_option maxRecDepth 100000 in
theorem iX7 {l : Launch} {D : va_G} {cy : Nat → ClassId} {s0 : State} {ad : zA} {w : zW} {kk ii : Nat} {a b c d e f : Int32} (hw : w kk ii = some (.inr (8, [.int 0, .int 0, .int 0, .int 0, .int 0, .int 0, .int 0]))) : zM l D cy s0 yX7_init cX7_init 7 none 2 0 0 [.ref (ad kk ii), .int a, .int b, .int c, .int d, .int e, .int f] ad w (zPv ad (zU w kk ii (some (.inr (8, [.int a, .int b, .int c, .int d, .int e, .int f, .int (-2)]))))) := by
  refine zM_of (own := RX7) rfl (by decide) (by simp [Value.category]) (Nat.le_of_ble_eq_true rfl) ?_
  intro X hB
  show V X RX7 cX7_init 7 none 0 0 ad w 0 [some (.ref (ad kk ii)), some (.int a), some (.int b), some (.int c), some (.int d), some (.int e), some (.int f)] []
  refine v_aload_n dX7_init_0 rfl ?_
  refine v_obj hB o_X7_3 o_inst o_code (by decide) (Nat.le_of_ble_eq_true rfl) dX7_init_1 ?_
  refine v_aload_n dX7_init_4 rfl ?_
  refine v_bipush_v (v := -2) dX7_init_5 (by decide) ?_
  refine v_put (ci := 8) (k := 6) (ty := .int) tyX7 tyX7_ok nmX7 rfl inX7 (by decide) f_X7_9 rfl rfl (by decide +kernel) rfl rfl hw (Nat.le_of_ble_eq_true rfl) dX7_init_7 ?_
  refine v_w (show _ = zU w kk ii (some (.inr (8, [.int 0, .int 0, .int 0, .int 0, .int 0, .int 0, .int (-2)]))) from rfl) ?_
  skip
  refine v_aload_n dX7_init_10 rfl ?_
  refine v_iload_n dX7_init_11 rfl ?_
  refine v_putF hB.nm (ci := 8) (k := 0) (ty := .int) tyX7 tyX7_ok nmX7 rfl inX7 (by decide) f_X7_15 rfl rfl rfl (by decide +kernel) rfl rfl (zU_s _ _ _ _) (Nat.le_of_ble_eq_true rfl) dX7_init_12 ?_
  refine v_w (show _ = zU w kk ii (some (.inr (8, [.int a, .int 0, .int 0, .int 0, .int 0, .int 0, .int (-2)]))) from zU_zU _ _ _ _ _) ?_
  skip
  refine v_aload_n dX7_init_15 rfl ?_
  refine v_iload_n dX7_init_16 rfl ?_
  refine v_putF hB.nm (ci := 8) (k := 1) (ty := .int) tyX7 tyX7_ok nmX7 rfl inX7 (by decide) f_X7_18 rfl rfl rfl (by decide +kernel) rfl rfl (zU_s _ _ _ _) (Nat.le_of_ble_eq_true rfl) dX7_init_17 ?_
  refine v_w (show _ = zU w kk ii (some (.inr (8, [.int a, .int b, .int 0, .int 0, .int 0, .int 0, .int (-2)]))) from zU_zU _ _ _ _ _) ?_
  skip
  refine v_aload_n dX7_init_20 rfl ?_
  refine v_iload_n dX7_init_21 rfl ?_
  refine v_putF hB.nm (ci := 8) (k := 2) (ty := .int) tyX7 tyX7_ok nmX7 rfl inX7 (by decide) f_X7_21 rfl rfl rfl (by decide +kernel) rfl rfl (zU_s _ _ _ _) (Nat.le_of_ble_eq_true rfl) dX7_init_22 ?_
  refine v_w (show _ = zU w kk ii (some (.inr (8, [.int a, .int b, .int c, .int 0, .int 0, .int 0, .int (-2)]))) from zU_zU _ _ _ _ _) ?_
  skip
  refine v_aload_n dX7_init_25 rfl ?_
  refine v_iload dX7_init_26 rfl ?_
  refine v_putF hB.nm (ci := 8) (k := 3) (ty := .int) tyX7 tyX7_ok nmX7 rfl inX7 (by decide) f_X7_24 rfl rfl rfl (by decide +kernel) rfl rfl (zU_s _ _ _ _) (Nat.le_of_ble_eq_true rfl) dX7_init_28 ?_
  refine v_w (show _ = zU w kk ii (some (.inr (8, [.int a, .int b, .int c, .int d, .int 0, .int 0, .int (-2)]))) from zU_zU _ _ _ _ _) ?_
  skip
  refine v_aload_n dX7_init_31 rfl ?_
  refine v_iload dX7_init_32 rfl ?_
  refine v_putF hB.nm (ci := 8) (k := 4) (ty := .int) tyX7 tyX7_ok nmX7 rfl inX7 (by decide) f_X7_27 rfl rfl rfl (by decide +kernel) rfl rfl (zU_s _ _ _ _) (Nat.le_of_ble_eq_true rfl) dX7_init_34 ?_
  refine v_w (show _ = zU w kk ii (some (.inr (8, [.int a, .int b, .int c, .int d, .int e, .int 0, .int (-2)]))) from zU_zU _ _ _ _ _) ?_
  skip
  refine v_aload_n dX7_init_37 rfl ?_
  refine v_iload dX7_init_38 rfl ?_
  refine v_putF hB.nm (ci := 8) (k := 5) (ty := .int) tyX7 tyX7_ok nmX7 rfl inX7 (by decide) f_X7_30 rfl rfl rfl (by decide +kernel) rfl rfl (zU_s _ _ _ _) (Nat.le_of_ble_eq_true rfl) dX7_init_40 ?_
  refine v_w (show _ = zU w kk ii (some (.inr (8, [.int a, .int b, .int c, .int d, .int e, .int f, .int (-2)]))) from zU_zU _ _ _ _ _) ?_
  skip
  exact v_vret hB (by decide) (by decide) dX7_init_43 ⟨rfl, rfl, rfl⟩
set_option maxHeartbeats 4000000 in
set_option maxRecDepth 100000 in
theorem iX0 {l : Launch} {D : va_G} {cy : Nat → ClassId} {s0 : State} {ad : zA} {w : zW} {kk ii : Nat} {a b c d e f : Int32} (hw : w kk ii = some (.inr (1, [.int 0, .int 0, .int 0, .int 0, .int 0, .int 0]))) (hbn : narrow .boolean (.int e) = .int e) (hbf : fits .boolean (.int e) = true) : zM l D cy s0 yX0_init cX0_init 7 none 2 0 0 [.ref (ad kk ii), .int a, .int b, .int c, .int d, .int e, .int f] ad w (zPv ad (zU w kk ii (some (.inr (1, [.int a, .int b, .int c, .int d, .int e, .int f]))))) := by
  refine zM_of (own := RX0) rfl (by decide) (by simp [Value.category]) (Nat.le_of_ble_eq_true rfl) ?_
  intro X hB
  show V X RX0 cX0_init 7 none 0 0 ad w 0 [some (.ref (ad kk ii)), some (.int a), some (.int b), some (.int c), some (.int d), some (.int e), some (.int f)] []
  refine v_aload_n dX0_init_0 rfl ?_
  refine v_obj hB o_X0_1 o_inst o_code (by decide) (Nat.le_of_ble_eq_true rfl) dX0_init_1 ?_
  refine v_aload_n dX0_init_4 rfl ?_
  refine v_iload_n dX0_init_5 rfl ?_
  refine v_putF hB.nm (ci := 1) (k := 0) (ty := .int) tyX0 tyX0_ok nmX0 rfl inX0 (by decide) f_X0_7 rfl rfl rfl (by decide +kernel) rfl rfl hw (Nat.le_of_ble_eq_true rfl) dX0_init_6 ?_
  refine v_w (show _ = zU w kk ii (some (.inr (1, [.int a, .int 0, .int 0, .int 0, .int 0, .int 0]))) from rfl) ?_
  skip
  refine v_aload_n dX0_init_9 rfl ?_
  refine v_iload_n dX0_init_10 rfl ?_
  refine v_putF hB.nm (ci := 1) (k := 1) (ty := .int) tyX0 tyX0_ok nmX0 rfl inX0 (by decide) f_X0_13 rfl rfl rfl (by decide +kernel) rfl rfl (zU_s _ _ _ _) (Nat.le_of_ble_eq_true rfl) dX0_init_11 ?_
  refine v_w (show _ = zU w kk ii (some (.inr (1, [.int a, .int b, .int 0, .int 0, .int 0, .int 0]))) from zU_zU _ _ _ _ _) ?_
  skip
  refine v_aload_n dX0_init_14 rfl ?_
  refine v_iload_n dX0_init_15 rfl ?_
  refine v_putF hB.nm (ci := 1) (k := 2) (ty := .int) tyX0 tyX0_ok nmX0 rfl inX0 (by decide) f_X0_16 rfl rfl rfl (by decide +kernel) rfl rfl (zU_s _ _ _ _) (Nat.le_of_ble_eq_true rfl) dX0_init_16 ?_
  refine v_w (show _ = zU w kk ii (some (.inr (1, [.int a, .int b, .int c, .int 0, .int 0, .int 0]))) from zU_zU _ _ _ _ _) ?_
  skip
  refine v_aload_n dX0_init_19 rfl ?_
  refine v_iload dX0_init_20 rfl ?_
  refine v_putF hB.nm (ci := 1) (k := 3) (ty := .int) tyX0 tyX0_ok nmX0 rfl inX0 (by decide) f_X0_19 rfl rfl rfl (by decide +kernel) rfl rfl (zU_s _ _ _ _) (Nat.le_of_ble_eq_true rfl) dX0_init_22 ?_
  refine v_w (show _ = zU w kk ii (some (.inr (1, [.int a, .int b, .int c, .int d, .int 0, .int 0]))) from zU_zU _ _ _ _ _) ?_
  skip
  refine v_aload_n dX0_init_25 rfl ?_
  refine v_iload dX0_init_26 rfl ?_
  refine v_putF hB.nm (ci := 1) (k := 4) (ty := .boolean) tyX0 tyX0_ok nmX0 rfl inX0 (by decide) f_X0_22 rfl rfl rfl (by decide +kernel) hbn hbf (zU_s _ _ _ _) (Nat.le_of_ble_eq_true rfl) dX0_init_28 ?_
  refine v_w (show _ = zU w kk ii (some (.inr (1, [.int a, .int b, .int c, .int d, .int e, .int 0]))) from zU_zU _ _ _ _ _) ?_
  skip
  refine v_aload_n dX0_init_31 rfl ?_
  refine v_iload dX0_init_32 rfl ?_
  refine v_putF hB.nm (ci := 1) (k := 5) (ty := .int) tyX0 tyX0_ok nmX0 rfl inX0 (by decide) f_X0_26 rfl rfl rfl (by decide +kernel) rfl rfl (zU_s _ _ _ _) (Nat.le_of_ble_eq_true rfl) dX0_init_34 ?_
  refine v_w (show _ = zU w kk ii (some (.inr (1, [.int a, .int b, .int c, .int d, .int e, .int f]))) from zU_zU _ _ _ _ _) ?_
  skip
  exact v_vret hB (by decide) (by decide) dX0_init_37 ⟨rfl, rfl, rfl⟩
set_option maxHeartbeats 4000000 in
set_option maxRecDepth 100000 in
theorem iX1 {l : Launch} {D : va_G} {cy : Nat → ClassId} {s0 : State} {ad : zA} {w : zW} {kk ii : Nat} {a b : Int32} (hw : w kk ii = some (.inr (2, [.int 0, .int 0, .int 0]))) : zM l D cy s0 yX1_init cX1_init 3 none 2 0 0 [.ref (ad kk ii), .int a, .int b] ad w (zPv ad (zU w kk ii (some (.inr (2, [.int a, .int b, .int 1]))))) := by
  refine zM_of (own := RX1) rfl (by decide) (by simp [Value.category]) (Nat.le_of_ble_eq_true rfl) ?_
  intro X hB
  show V X RX1 cX1_init 3 none 0 0 ad w 0 [some (.ref (ad kk ii)), some (.int a), some (.int b)] []
  refine v_aload_n dX1_init_0 rfl ?_
  refine v_obj hB o_X1_3 o_inst o_code (by decide) (Nat.le_of_ble_eq_true rfl) dX1_init_1 ?_
  refine v_aload_n dX1_init_4 rfl ?_
  refine v_iconst_v (v := 1) dX1_init_5 (by decide) ?_
  refine v_put (ci := 2) (k := 2) (ty := .int) tyX1 tyX1_ok nmX1 rfl inX1 (by decide) f_X1_9 rfl rfl (by decide +kernel) rfl rfl hw (Nat.le_of_ble_eq_true rfl) dX1_init_6 ?_
  refine v_w (show _ = zU w kk ii (some (.inr (2, [.int 0, .int 0, .int 1]))) from rfl) ?_
  skip
  refine v_aload_n dX1_init_9 rfl ?_
  refine v_iload_n dX1_init_10 rfl ?_
  refine v_putF hB.nm (ci := 2) (k := 0) (ty := .int) tyX1 tyX1_ok nmX1 rfl inX1 (by decide) f_X1_15 rfl rfl rfl (by decide +kernel) rfl rfl (zU_s _ _ _ _) (Nat.le_of_ble_eq_true rfl) dX1_init_11 ?_
  refine v_w (show _ = zU w kk ii (some (.inr (2, [.int a, .int 0, .int 1]))) from zU_zU _ _ _ _ _) ?_
  skip
  refine v_aload_n dX1_init_14 rfl ?_
  refine v_iload_n dX1_init_15 rfl ?_
  refine v_putF hB.nm (ci := 2) (k := 1) (ty := .int) tyX1 tyX1_ok nmX1 rfl inX1 (by decide) f_X1_18 rfl rfl rfl (by decide +kernel) rfl rfl (zU_s _ _ _ _) (Nat.le_of_ble_eq_true rfl) dX1_init_16 ?_
  refine v_w (show _ = zU w kk ii (some (.inr (2, [.int a, .int b, .int 1]))) from zU_zU _ _ _ _ _) ?_
  skip
  exact v_vret hB (by decide) (by decide) dX1_init_19 ⟨rfl, rfl, rfl⟩
set_option maxHeartbeats 4000000 in
set_option maxRecDepth 100000 in
theorem pJxa1e45_init {l : Launch} {D : va_G} {cy : Nat → ClassId} {s0 : State} {ad : zA} {w : zW} {a : Nat} : zM l D cy s0 yJxa1e45_init_da8c8 cJxa1e45_init_da8c8 1 none 1 0 0 [.ref a] ad w (zPv ad w) := by
  refine zM_of (own := RJxa1e45) rfl (by decide) (by simp [Value.category]) (Nat.le_of_ble_eq_true rfl) ?_
  intro X hB
  show V X RJxa1e45 cJxa1e45_init_da8c8 1 none 0 0 ad w 0 [some (.ref a)] []
  refine v_aload_n dJxa1e45_init_da8c8_0 rfl ?_
  refine v_obj hB o_Jxa1e45_1 o_inst o_code (by decide) (Nat.le_of_ble_eq_true rfl) dJxa1e45_init_da8c8_1 ?_
  exact v_vret hB (by decide) (by decide) dJxa1e45_init_da8c8_4 ⟨rfl, rfl, rfl⟩
set_option maxHeartbeats 4000000 in
theorem pJxc12de_init {l : Launch} {D : va_G} {cy : Nat → ClassId} {s0 : State} {ad : zA} {w : zW} {kk ii : Nat} (hw : w kk ii = some (.inr (0, [.int 0, .null, .int 0]))) : zM l D cy s0 yJxc12de_init_da8c8 cJxc12de_init_da8c8 1 none 2 0 0 [.ref (ad kk ii)] ad w (zPv ad w) := by
  refine zM_of (own := RJxc12de) rfl (by decide) (by simp [Value.category]) (Nat.le_of_ble_eq_true rfl) ?_
  intro X hB
  show V X RJxc12de cJxc12de_init_da8c8 1 none 0 0 ad w 0 [some (.ref (ad kk ii))] []
  refine v_aload_n dJxc12de_init_da8c8_0 rfl ?_
  refine v_cIv0 hB k_Jxc12de_1 pJxa1e45_init (by decide) ⟨by decide, by decide⟩ (Nat.le_of_ble_eq_true rfl) dJxc12de_init_da8c8_1 ?_
  refine v_aload_n dJxc12de_init_da8c8_4 rfl ?_
  refine v_iconst_v (v := 0) dJxc12de_init_da8c8_5 (by decide) ?_
  refine v_put (ci := 0) (k := 0) (ty := .int) tyJx4a65c tyJx4a65c_ok nmJx4a65c rfl inJx4a65c (by decide) f_al_7 rfl rfl (by decide +kernel) rfl rfl hw (Nat.le_of_ble_eq_true rfl) dJxc12de_init_da8c8_6 ?_
  refine v_w (show _ = w from ?_) ?_
  · funext a b; unfold zU
    by_cases e : a = kk ∧ b = ii
    · rw [if_pos e, e.1, e.2, hw]; rfl
    · rw [if_neg e]
  exact v_vret hB (by decide) (by decide) dJxc12de_init_da8c8_9 ⟨rfl, rfl, rfl⟩
set_option maxHeartbeats 4000000 in
theorem pJx4a65c_init {l : Launch} {D : va_G} {cy : Nat → ClassId} {s0 : State} {ad : zA} {w : zW} {kk ii t : Nat} (hSt : zSt s0 t) (hw : w kk ii = some (.inr (0, [.int 0, .null, .int 0]))) : zM l D cy s0 yJx4a65c_init_da8c8 cJx4a65c_init_da8c8 1 none 3 0 0 [.ref (ad kk ii)] ad w (zPv ad (zU w kk ii (some (.inr (0, [.int 0, .ref t, .int 0]))))) := by
  refine zM_of (own := RJx4a65c) rfl (by decide) (by simp [Value.category]) (Nat.le_of_ble_eq_true rfl) ?_
  intro X hB
  show V X RJx4a65c cJx4a65c_init_da8c8 1 none 0 0 ad w 0 [some (.ref (ad kk ii))] []
  refine v_aload_n dJx4a65c_init_da8c8_0 rfl ?_
  refine v_cIv0 hB k_Jx4a65c_1 (pJxc12de_init hw) (by decide) ⟨by decide, by decide⟩ (Nat.le_of_ble_eq_true rfl) dJx4a65c_init_da8c8_1 ?_
  refine v_aload_n dJx4a65c_init_da8c8_4 rfl ?_
  refine v_sget hB hSt f_al_39 dJx4a65c_init_da8c8_5 ?_
  refine v_put (ci := 0) (k := 1) (ty := .array (.object "java/lang/Object")) tyJx4a65c tyJx4a65c_ok nmJx4a65c rfl inJx4a65c (by decide) f_Jx4a65c_9 rfl rfl (by decide +kernel) rfl rfl hw (Nat.le_of_ble_eq_true rfl) dJx4a65c_init_da8c8_8 ?_
  exact v_vret hB (by decide) (by decide) dJx4a65c_init_da8c8_11 ⟨rfl, rfl, rfl⟩
set_option maxHeartbeats 4000000 in
set_option maxRecDepth 100000 in
theorem pJ8_newLength {l : Launch} {D : va_G} {cy : Nat → ClassId} {s0 : State} {ad : zA} {w : zW} {a b c : Nat} (h : 0 < a + max b c) (h2 : a + max b c ≤ 100000) : zM l D cy s0 yJ8_newLength_cabcc cJ8_newLength_cabcc 4 (some .int) 1 0 0 [.int (nI a), .int (nI b), .int (nI c)] ad w (zPi (nI (a + max b c)) ad w) := by
  refine zM_of (own := RJ8) rfl (by decide) (by simp [Value.category]) (Nat.le_of_ble_eq_true rfl) ?_
  intro X hB
  show V X RJ8 cJ8_newLength_cabcc 4 (some .int) 0 0 ad w 0 [some (.int (nI a)), some (.int (nI b)), some (.int (nI c)), none] []
  refine v_iload_n dJ8_newLength_cabcc_0 rfl ?_
  refine v_iload_n dJ8_newLength_cabcc_1 rfl ?_
  refine v_iload_n dJ8_newLength_cabcc_2 rfl ?_
  refine v_max hB max_J8_194 max_s math_i max_c (by decide) ⟨by decide, by decide⟩ (Nat.le_of_ble_eq_true rfl) dJ8_newLength_cabcc_3 ?_
  refine v_eq (max_I (a := b) (b := c) (by omega) (by omega)) ?_
  refine v_iadd dJ8_newLength_cabcc_6 ?_
  refine v_eq (nI_add a (max b c)) ?_
  refine v_istore_n3 dJ8_newLength_cabcc_7 (by decide) ?_
  refine v_iconst_v (v := 0) dJ8_newLength_cabcc_8 (by decide) ?_
  refine v_iload_n dJ8_newLength_cabcc_9 rfl ?_
  refine v_icmp_ge (tgt := 21) dJ8_newLength_cabcc_10 (by decide) (fun z => absurd z (nI_nle h (by omega))) (fun _ => ?_)
  refine v_iload_n dJ8_newLength_cabcc_13 rfl ?_
  refine v_ldc kc_200 dJ8_newLength_cabcc_14 ?_
  refine v_icmp_gt (tgt := 21) dJ8_newLength_cabcc_16 (by decide) (fun z => absurd z (nI_nlt (a := 2147483639) (by omega) (by decide))) (fun _ => ?_)
  refine v_iload_n dJ8_newLength_cabcc_19 rfl ?_
  exact v_iret hB (by decide) (by decide) dJ8_newLength_cabcc_20 ⟨rfl, rfl, rfl⟩
def cpP (cy : Nat → ClassId) (ad : zA) (w : zW) (N1 : Nat) (f : Nat → Option Nat) : Option Value → zA → zW → Prop := fun r ad2 w2 => r = some (.ref (ad2 20 0)) ∧ (∀ a b, ¬ (a = 20 ∧ b = 0) → ad2 a b = ad a b) ∧ w2 = zU w 20 0 (some (.inl (cy 2, zq N1 f)))
set_option maxHeartbeats 4000000 in
set_option maxRecDepth 100000 in
theorem pJ7_copyOf3 {l : Launch} {D : va_G} {cy : Nat → ClassId} {s0 : State} {ad : zA} {w : zW} {k N0 N1 mi : Nat} {f : Nat → Option Nat} (hM : zMi s0 mi) {kv ci NN : Nat} {C : String} {T : u_T} (hkv : 8 ≤ kv ∧ kv ≤ 13) (hc : vwCl[ci]? = some (C, T, NN)) (hca : Cond.castable C "java/lang/Object" ∈ lw_tbl) (hw0 : w 7 k = some (.inl (cy 2, zq N0 f))) (h20 : w 20 0 = none) (h01 : N0 ≤ N1) (hN1 : N1 ≤ 100000) (hel : ∀ i, i < N0 → f i = some (ad kv i) ∧ ∃ fs : List Value, w kv i = some (.inr (ci, fs))) : zM l D cy s0 yJ7_copyOf_6403c cJ7_copyOf_6403c 4 (some (.array (.object "java/lang/Object"))) 1 1 N1 [.ref (ad 7 k), .int (nI N1), .ref mi] ad w (cpP cy ad w N1 (va_cpy f (fun _ => none) 0 0 N0)) := by
  refine zM_of (own := RJ7) rfl (by decide) (by simp [Value.category]) (Nat.le_of_ble_eq_true rfl) ?_
  intro X hB
  show V X RJ7 cJ7_copyOf_6403c 4 (some (.array (.object "java/lang/Object"))) 0 0 ad w 0 [some (.ref (ad 7 k)), some (.int (nI N1)), some (.ref mi), none] []
  refine v_aload_n dJ7_copyOf_6403c_0 rfl ?_
  refine v_ldcM hB hM cl_J7_110 dJ7_copyOf_6403c_1 ?_
  refine v_acmp_ne (tgt := 13) dJ7_copyOf_6403c_3 (by decide) (fun z => absurd rfl z) (fun _ => ?_)
  refine v_iload_n dJ7_copyOf_6403c_6 rfl ?_
  refine v_anew (kk := 20) (ii := 0) (N := N1) hB cl_J7_2 rfl hN1 h20 ⟨by omega, by omega⟩ dJ7_copyOf_6403c_7 (fun ad2 had => ?_)
  refine v_goto (tgt := 24) dJ7_copyOf_6403c_10 (by decide) ?_
  refine v_astore_n3 dJ7_copyOf_6403c_24 (by decide) ?_
  rw [← had 7 k (by omega)]
  refine v_aload_n dJ7_copyOf_6403c_25 rfl ?_
  refine v_iconst_v (v := 0) dJ7_copyOf_6403c_26 (by decide) ?_
  refine v_aload_n dJ7_copyOf_6403c_27 rfl ?_
  refine v_iconst_v (v := 0) dJ7_copyOf_6403c_28 (by decide) ?_
  refine v_aload_n dJ7_copyOf_6403c_29 rfl ?_
  refine v_alen (kk := 7) (ii := k) (t := 2) (x := zq N0 f) (by decide) (by rw [hB.cy, zU_n _ _ (by omega)]; exact hw0) dJ7_copyOf_6403c_30 ?_
  refine v_iload_n dJ7_copyOf_6403c_31 rfl ?_
  refine v_min hB min_J7_304 min_s math_i min_c (by decide) ⟨by omega, by omega⟩ (Nat.le_of_ble_eq_true rfl) dJ7_copyOf_6403c_32 ?_
  refine v_eq (show (if nI N1 < nI N0 then nI N1 else nI N0) = nI N0 from if_neg (nI_nlt h01 (by omega))) ?_
  refine v_cpyq (k0 := 7) (i0 := k) (k1 := 20) (i1 := 0) (kv := kv) (ci := ci) (N0 := N0) (N1 := N1) (f := f) (g := fun _ => none) hB ac_J7_150 (by rw [zU_n _ _ (by omega)]; exact hw0) (zU_s _ _ _ _) (Nat.le_refl _) h01 (by omega) (by omega) hc hca (fun i hi => ?_) (by decide) (Nat.le_of_ble_eq_true rfl) dJ7_copyOf_6403c_35 ?_
  · obtain ⟨e1, fs, e2⟩ := hel i hi
    exact ⟨i, fs, by rw [had kv i (by omega)]; exact e1, by rw [zU_n _ _ (by omega)]; exact e2⟩
  refine v_w (zU_zU _ _ _ _ _) ?_
  refine v_aload_n dJ7_copyOf_6403c_38 rfl ?_
  exact v_aret (Or.inr ⟨_, rfl⟩) hB (by omega) (by omega) dJ7_copyOf_6403c_39 ⟨rfl, had, rfl⟩
set_option maxHeartbeats 4000000 in
theorem pJ7_copyOf2 {l : Launch} {D : va_G} {cy : Nat → ClassId} {s0 : State} {ad : zA} {w : zW} {k N0 N1 : Nat} {f : Nat → Option Nat} (hG : zG s0) {kv ci NN : Nat} {C : String} {T : u_T} (hkv : 8 ≤ kv ∧ kv ≤ 13) (hc : vwCl[ci]? = some (C, T, NN)) (hca : Cond.castable C "java/lang/Object" ∈ lw_tbl) (hw0 : w 7 k = some (.inl (cy 2, zq N0 f))) (h20 : w 20 0 = none) (h01 : N0 ≤ N1) (hN1 : N1 ≤ 100000) (hel : ∀ i, i < N0 → f i = some (ad kv i) ∧ ∃ fs : List Value, w kv i = some (.inr (ci, fs))) : zM l D cy s0 yJ7_copyOf_1904c cJ7_copyOf_1904c 2 (some (.array (.object "java/lang/Object"))) 2 1 N1 [.ref (ad 7 k), .int (nI N1)] ad w (cpP cy ad w N1 (va_cpy f (fun _ => none) 0 0 N0)) := by
  obtain ⟨mi, hM⟩ := zMi.ex hG
  refine zM_of (own := RJ7) rfl (by decide) (by simp [Value.category]) (Nat.le_of_ble_eq_true rfl) ?_
  intro X hB
  show V X RJ7 cJ7_copyOf_1904c 2 (some (.array (.object "java/lang/Object"))) 0 0 ad w 0 [some (.ref (ad 7 k)), some (.int (nI N1))] []
  refine v_aload_n dJ7_copyOf_1904c_0 rfl ?_
  refine v_iload_n dJ7_copyOf_1904c_1 rfl ?_
  refine v_aload_n dJ7_copyOf_1904c_2 rfl ?_
  refine v_getC hB hM gc_l gc_i hw0 (by decide) (Nat.le_of_ble_eq_true rfl) dJ7_copyOf_1904c_3 ?_
  refine v_cSg3 hB k_J7_300 (pJ7_copyOf3 hM hkv hc hca hw0 h20 h01 hN1 hel) ⟨by decide, by decide⟩ ⟨by omega, by omega⟩ (Nat.le_of_ble_eq_true rfl) dJ7_copyOf_1904c_6 ?_
  rintro r ad2 w2 ⟨rfl, had, rfl⟩
  show V X RJ7 cJ7_copyOf_1904c 2 (some (.array (.object "java/lang/Object"))) _ _ ad2 _ 9 _ [_]
  exact v_aret (Or.inr ⟨_, rfl⟩) hB (by omega) (by omega) dJ7_copyOf_1904c_9 ⟨rfl, had, rfl⟩
