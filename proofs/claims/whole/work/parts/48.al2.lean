theorem zU_self (w : zW) (k i : Nat) : zU w k i (w k i) = w := by
  funext a b; unfold zU; by_cases e : a = k ∧ b = i
  · rw [if_pos e, e.1, e.2]
  · rw [if_neg e]
theorem xEl_0 (ad : zA) (kv : Nat) : xEl ad kv 0 = fun _ => none := by
  funext j; unfold xEl; exact if_neg (Nat.not_lt_zero _)
theorem xEl_cpy (ad : zA) (kv n : Nat) : va_cpy (xEl ad kv n) (fun _ => none) 0 0 n = xEl ad kv n := by
  funext j
  by_cases h : j < n
  · rw [pk_cpy_in (Nat.zero_le _) (by omega), Nat.zero_add, Nat.sub_zero]
  · rw [pk_cpy_out (by omega)]; unfold xEl; rw [if_neg h]
theorem xEl_up {ad ad2 : zA} {kv n : Nat} (h : ∀ j, ad2 kv j = ad kv j) : va_up (xEl ad kv n) n (some (ad2 kv n)) = xEl ad2 kv (n + 1) := by
  funext j
  unfold va_up xEl
  by_cases e : j = n
  · subst e; rw [if_pos rfl, if_pos (by omega)]
  · rw [if_neg e]
    by_cases h2 : j < n
    · rw [if_pos h2, if_pos (by omega), h j]
    · rw [if_neg h2, if_neg (by omega)]
def agx (k : Nat) (ad ad2 : zA) : Prop := ∀ a b, ¬ (a = 7 ∧ b = k) → ¬ (a = 20 ∧ b = 0) → ad2 a b = ad a b
abbrev zl (mo : Int32) (t n : Nat) : Option va_E := some (.inr (0, [.int mo, .ref t, .int (nI n)]))
abbrev za (cy : Nat → ClassId) (cp : Nat) (f : Nat → Option Nat) : Option va_E := some (.inl (cy 2, zq cp f))
def grP (cy : Nat → ClassId) (ad : zA) (w : zW) (k : Nat) (mo : Int32) (n kv : Nat) : Option Value → zA → zW → Prop := fun r ad2 w2 => r = some (.ref (ad2 7 k)) ∧ agx k ad ad2 ∧ ∃ cp2, n + 1 ≤ cp2 ∧ cp2 ≤ 310 ∧ w2 = zU (zU w 7 k (za cy cp2 (xEl ad kv n))) 6 k (zl mo (ad2 7 k) n)
set_option maxHeartbeats 4000000 in
set_option maxRecDepth 100000 in
theorem pJx_growI {l : Launch} {D : va_G} {cy : Nat → ClassId} {s0 : State} {ad : zA} {w : zW} {k n : Nat} {mo : Int32} (hG : zG s0) {kv ci NN : Nat} {C : String} {T : u_T} (hkv : 8 ≤ kv ∧ kv ≤ 13) (hc : vwCl[ci]? = some (C, T, NN)) (hca : Cond.castable C "java/lang/Object" ∈ lw_tbl) (h6 : w 6 k = zl mo (ad 7 k) n) (h7 : (n = 0 ∧ w 7 k = none ∧ zSt s0 (ad 7 k)) ∨ (0 < n ∧ w 7 k = za cy n (xEl ad kv n))) (h20 : w 20 0 = none) (hn : n ≤ 200) (hel : ∀ i, i < n → ∃ fs : List Value, w kv i = some (.inr (ci, fs))) : zM l D cy s0 yJx4a65c_grow_92f84 cJx4a65c_grow_92f84 4 (some (.array (.object "java/lang/Object"))) 4 1 310 [.ref (ad 6 k), .int (nI (n + 1))] ad w (grP cy ad w k mo n kv) := by
  refine zM_of (own := RJx4a65c) rfl (by decide) (by simp [Value.category]) (Nat.le_of_ble_eq_true rfl) ?_
  intro X hB
  show V X RJx4a65c cJx4a65c_grow_92f84 4 (some (.array (.object "java/lang/Object"))) 0 0 ad w 0 [some (.ref (ad 6 k)), some (.int (nI (n + 1))), none, none] []
  rcases h7 with ⟨hn0, h70, hSt⟩ | ⟨h0, h7⟩
  · subst hn0
    refine v_aload_n dJx4a65c_grow_92f84_0 rfl ?_
    refine v_get (ci := 0) (k := 1) rfl inJx4a65c (by decide) f_Jx4a65c_9 rfl h6 rfl dJx4a65c_grow_92f84_1 ?_
    refine v_alen0 hB hSt dJx4a65c_grow_92f84_4 ?_
    refine v_istore_n2 dJx4a65c_grow_92f84_5 (by decide) ?_
    refine v_iload_n dJx4a65c_grow_92f84_6 rfl ?_
    refine v_if_gt (tgt := 20) dJx4a65c_grow_92f84_7 (by decide) (fun z => absurd z (by decide)) (fun _ => ?_)
    refine v_aload_n dJx4a65c_grow_92f84_10 rfl ?_
    refine v_get (ci := 0) (k := 1) rfl inJx4a65c (by decide) f_Jx4a65c_9 rfl h6 rfl dJx4a65c_grow_92f84_11 ?_
    refine v_sget hB hSt f_al_39 dJx4a65c_grow_92f84_14 ?_
    refine v_acmp_eq (tgt := 45) dJx4a65c_grow_92f84_17 (by decide) (fun _ => ?_) (fun z => absurd rfl z)
    refine v_aload_n dJx4a65c_grow_92f84_45 rfl ?_
    refine v_bipush_v (v := 10) dJx4a65c_grow_92f84_46 (by decide) ?_
    refine v_iload_n dJx4a65c_grow_92f84_48 rfl ?_
    refine v_max hB max_Jx4a65c_79 max_s math_i max_c (by decide) ⟨by decide, by decide⟩ (Nat.le_of_ble_eq_true rfl) dJx4a65c_grow_92f84_49 ?_
    refine v_anew (kk := 7) (ii := k) (N := 10) hB cl_al_7 (by decide) (by decide) h70 ⟨by decide, by decide⟩ dJx4a65c_grow_92f84_52 (fun ad2 had => ?_)
    refine v_dup_x1 dJx4a65c_grow_92f84_55 rfl rfl ?_
    rw [← had 6 k (by omega)]
    refine v_put (ci := 0) (k := 1) (ty := .array (.object "java/lang/Object")) tyJx4a65c tyJx4a65c_ok nmJx4a65c rfl inJx4a65c (by decide) f_Jx4a65c_9 rfl rfl (by decide +kernel) rfl rfl (show zU w 7 k _ 6 k = _ by rw [zU_n _ _ (by omega)]; exact h6) (Nat.le_of_ble_eq_true rfl) dJx4a65c_grow_92f84_56 ?_
    exact v_aret (Or.inr ⟨_, rfl⟩) hB (by decide) (by decide) dJx4a65c_grow_92f84_59 ⟨rfl, fun a b q1 q2 => had a b q1, 10, by omega, by omega, by rw [xEl_0]; rfl⟩
  · have hsz : n + max 1 (n / 2) ≤ 310 := by omega
    refine v_aload_n dJx4a65c_grow_92f84_0 rfl ?_
    refine v_get (ci := 0) (k := 1) rfl inJx4a65c (by decide) f_Jx4a65c_9 rfl h6 rfl dJx4a65c_grow_92f84_1 ?_
    refine v_alen (kk := 7) (ii := k) (t := 2) (x := zq n (xEl ad kv n)) (by decide) (by rw [hB.cy]; exact h7) dJx4a65c_grow_92f84_4 ?_
    refine v_istore_n2 dJx4a65c_grow_92f84_5 (by decide) ?_
    refine v_iload_n dJx4a65c_grow_92f84_6 rfl ?_
    refine v_if_gt (tgt := 20) dJx4a65c_grow_92f84_7 (by decide) (fun _ => ?_) (fun z => absurd (nI_lt (a := 0) h0 (by omega)) z)
    refine v_iload_n dJx4a65c_grow_92f84_20 rfl ?_
    refine v_iload_n dJx4a65c_grow_92f84_21 rfl ?_
    refine v_iload_n dJx4a65c_grow_92f84_22 rfl ?_
    refine v_isub dJx4a65c_grow_92f84_23 ?_
    refine v_eq (show nI (n + 1) - nI n = nI 1 by rw [pk_sub (by omega)]; congr 1; omega) ?_
    refine v_iload_n dJx4a65c_grow_92f84_24 rfl ?_
    refine v_iconst_v (v := 1) dJx4a65c_grow_92f84_25 (by decide) ?_
    refine v_ishr dJx4a65c_grow_92f84_26 ?_
    refine v_eq (show nI n >>> ((1 : Int32) &&& 31) = nI (n / 2) by rw [pk_shrN (by omega) _ 1 (by decide), Nat.pow_one]) ?_
    refine v_cSi3 hB k_Jx4a65c_73 (pJ8_newLength (a := n) (b := 1) (c := n / 2) (by omega) (by omega)) (by decide) ⟨by decide, by decide⟩ (Nat.le_of_ble_eq_true rfl) dJx4a65c_grow_92f84_27 ?_
    refine v_istore_n3 dJx4a65c_grow_92f84_30 (by decide) ?_
    refine v_aload_n dJx4a65c_grow_92f84_31 rfl ?_
    refine v_aload_n dJx4a65c_grow_92f84_32 rfl ?_
    refine v_get (ci := 0) (k := 1) rfl inJx4a65c (by decide) f_Jx4a65c_9 rfl h6 rfl dJx4a65c_grow_92f84_33 ?_
    refine v_iload_n dJx4a65c_grow_92f84_36 rfl ?_
    refine v_cSg2 hB k_Jx4a65c_66 (pJ7_copyOf2 (N0 := n) (N1 := n + max 1 (n / 2)) (f := xEl ad kv n) hG hkv hc hca h7 h20 (by omega) (by omega) (fun i hi => ⟨by unfold xEl; rw [if_pos hi], hel i hi⟩)) ⟨by decide, by decide⟩ ⟨by omega, by omega⟩ (Nat.le_of_ble_eq_true rfl) dJx4a65c_grow_92f84_37 ?_
    rintro r ad2 w2 ⟨rfl, had, rfl⟩
    show V X RJx4a65c cJx4a65c_grow_92f84 4 (some (.array (.object "java/lang/Object"))) _ _ ad2 _ 40 _ [.ref (ad2 20 0), .ref (ad 6 k)]
    refine v_dup_x1 dJx4a65c_grow_92f84_40 rfl rfl ?_
    rw [← had 6 k (by omega), xEl_cpy]
    refine v_put (ci := 0) (k := 1) (ty := .array (.object "java/lang/Object")) tyJx4a65c tyJx4a65c_ok nmJx4a65c rfl inJx4a65c (by decide) f_Jx4a65c_9 rfl rfl (by decide +kernel) rfl rfl (show zU w 20 0 _ 6 k = _ by rw [zU_n _ _ (by omega)]; exact h6) (Nat.le_of_ble_eq_true rfl) dJx4a65c_grow_92f84_41 ?_
    refine v_mv (k := 20) (i := 0) (k1 := 7) (i1 := k) (c := .inl (cy 2, zq (n + max 1 (n / 2)) (xEl ad kv n))) (by rw [zU_n _ _ (by omega), zU_s]) (by omega) ?_
    refine v_aret (Or.inr ⟨_, rfl⟩) hB (by omega) (by omega) dJx4a65c_grow_92f84_44 ⟨by rw [zN_s], fun a b q1 q2 => by rw [zN_n _ _ q1]; exact had a b q2, n + max 1 (n / 2), by omega, hsz, ?_⟩
    rw [zN_s, zU_comm _ _ _ (show ¬ (6 = 20 ∧ k = 0) by omega), zU_zU, zU_none h20, zU_comm _ _ _ (show ¬ (6 = 7 ∧ k = k) by omega)]
    rfl
set_option maxHeartbeats 4000000 in
set_option maxRecDepth 100000 in
theorem pJx_grow {l : Launch} {D : va_G} {cy : Nat → ClassId} {s0 : State} {ad : zA} {w : zW} {k n : Nat} {mo : Int32} (hG : zG s0) {kv ci NN : Nat} {C : String} {T : u_T} (hkv : 8 ≤ kv ∧ kv ≤ 13) (hc : vwCl[ci]? = some (C, T, NN)) (hca : Cond.castable C "java/lang/Object" ∈ lw_tbl) (h6 : w 6 k = zl mo (ad 7 k) n) (h7 : (n = 0 ∧ w 7 k = none ∧ zSt s0 (ad 7 k)) ∨ (0 < n ∧ w 7 k = za cy n (xEl ad kv n))) (h20 : w 20 0 = none) (hn : n ≤ 200) (hel : ∀ i, i < n → ∃ fs : List Value, w kv i = some (.inr (ci, fs))) : zM l D cy s0 yJx4a65c_grow_d5877 cJx4a65c_grow_d5877 1 (some (.array (.object "java/lang/Object"))) 5 1 310 [.ref (ad 6 k)] ad w (grP cy ad w k mo n kv) := by
  refine zM_of (own := RJx4a65c) rfl (by decide) (by simp [Value.category]) (Nat.le_of_ble_eq_true rfl) ?_
  intro X hB
  show V X RJx4a65c cJx4a65c_grow_d5877 1 (some (.array (.object "java/lang/Object"))) 0 0 ad w 0 [some (.ref (ad 6 k))] []
  refine v_aload_n dJx4a65c_grow_d5877_0 rfl ?_
  refine v_aload_n dJx4a65c_grow_d5877_1 rfl ?_
  refine v_get (ci := 0) (k := 2) rfl inJx4a65c (by decide) f_Jx4a65c_48 rfl h6 rfl dJx4a65c_grow_d5877_2 ?_
  refine v_iconst_v (v := 1) dJx4a65c_grow_d5877_5 (by decide) ?_
  refine v_iadd dJx4a65c_grow_d5877_6 ?_
  refine v_eq (nI_add n 1) ?_
  refine v_cVg1 hB k_Jx4a65c_69 (pJx_growI hG hkv hc hca h6 h7 h20 hn hel) ⟨by decide, by decide⟩ ⟨by decide, by decide⟩ h6 rfl (Nat.le_of_ble_eq_true rfl) dJx4a65c_grow_d5877_7 ?_
  rintro r ad2 w2 ⟨rfl, had, h9⟩
  show V X RJx4a65c cJx4a65c_grow_d5877 1 (some (.array (.object "java/lang/Object"))) _ _ ad2 _ 10 _ [_]
  exact v_aret (Or.inr ⟨_, rfl⟩) hB (by decide) (by decide) dJx4a65c_grow_d5877_10 ⟨rfl, had, h9⟩
def adP (cy : Nat → ClassId) (ad : zA) (w : zW) (k : Nat) (mo : Int32) (n kv : Nat) (v : Option Value) : Option Value → zA → zW → Prop := fun r ad2 w2 => r = v ∧ agx k ad ad2 ∧ ∃ cp2, n + 1 ≤ cp2 ∧ cp2 ≤ 1000 ∧ w2 = zU (zU w 7 k (za cy cp2 (xEl ad2 kv (n + 1)))) 6 k (zl mo (ad2 7 k) (n + 1))
set_option maxHeartbeats 4000000 in
set_option maxRecDepth 100000 in
theorem pJx_add3 {l : Launch} {D : va_G} {cy : Nat → ClassId} {s0 : State} {ad : zA} {w : zW} {k n cp : Nat} {mo : Int32} (hG : zG s0) {kv ci NN : Nat} {C : String} {T : u_T} (hkv : 8 ≤ kv ∧ kv ≤ 13) (hc : vwCl[ci]? = some (C, T, NN)) (hca : Cond.castable C "java/lang/Object" ∈ lw_tbl) (h6 : w 6 k = zl mo (ad 7 k) n) (h7 : (cp = 0 ∧ w 7 k = none ∧ zSt s0 (ad 7 k)) ∨ (0 < cp ∧ w 7 k = za cy cp (xEl ad kv n))) (hcp : n ≤ cp) (hcp2 : cp ≤ 1000) (h20 : w 20 0 = none) (hn : n ≤ 200) (hel : ∀ i, i ≤ n → ∃ fs : List Value, w kv i = some (.inr (ci, fs))) : zM l D cy s0 yJx4a65c_add_72be8 cJx4a65c_add_72be8 4 none 6 1 310 [.ref (ad 6 k), .ref (ad kv n), .ref (ad 7 k), .int (nI n)] ad w (adP cy ad w k mo n kv none) := by
  refine zM_of (own := RJx4a65c) rfl (by decide) (by simp [Value.category]) (Nat.le_of_ble_eq_true rfl) ?_
  intro X hB
  show V X RJx4a65c cJx4a65c_add_72be8 4 none 0 0 ad w 0 [some (.ref (ad 6 k)), some (.ref (ad kv n)), some (.ref (ad 7 k)), some (.int (nI n))] []
  have K11 : ∀ (n1 n2 cp2 : Nat) (ad2 : zA), n1 ≤ 1 → n2 ≤ 310 → n + 1 ≤ cp2 → cp2 ≤ 1000 → agx k ad ad2 → V X RJx4a65c cJx4a65c_add_72be8 4 none n1 n2 ad2 (zU (zU w 7 k (za cy cp2 (xEl ad kv n))) 6 k (zl mo (ad2 7 k) n)) 11 [some (.ref (ad2 6 k)), some (.ref (ad2 kv n)), some (.ref (ad2 7 k)), some (.int (nI n))] [] := by
    intro n1 n2 cp2 ad2 q1 q2 q3 q4 had
    obtain ⟨fs, hfs⟩ := hel n (Nat.le_refl _)
    have ekv : ∀ j, ad2 kv j = ad kv j := fun j => had kv j (by omega) (by omega)
    refine v_aload_n dJx4a65c_add_72be8_11 rfl ?_
    refine v_iload_n dJx4a65c_add_72be8_12 rfl ?_
    refine v_aload_n dJx4a65c_add_72be8_13 rfl ?_
    refine v_aast (kk := 7) (ii := k) (kv := kv) (iv := n) (ci := ci) (n := cp2) (f := xEl ad kv n) hB (by rw [zU_n _ _ (by omega), zU_s]) (by rw [zU_n _ _ (by omega), zU_n _ _ (by omega)]; exact hfs) hc hca (vp_in_nI (by omega) (by omega)) dJx4a65c_add_72be8_14 ?_
    rw [nI_clamp (by omega), xEl_up ekv]
    refine v_w (show _ = zU (zU w 7 k (za cy cp2 (xEl ad2 kv (n + 1)))) 6 k (zl mo (ad2 7 k) n) by rw [zU_comm _ _ _ (show ¬ (6 = 7 ∧ k = k) by omega), zU_zU]) ?_
    refine v_aload_n dJx4a65c_add_72be8_15 rfl ?_
    refine v_iload_n dJx4a65c_add_72be8_16 rfl ?_
    refine v_iconst_v (v := 1) dJx4a65c_add_72be8_17 (by decide) ?_
    refine v_iadd dJx4a65c_add_72be8_18 ?_
    refine v_eq (nI_add n 1) ?_
    refine v_put (ci := 0) (k := 2) (ty := .int) tyJx4a65c tyJx4a65c_ok nmJx4a65c rfl inJx4a65c (by decide) f_Jx4a65c_48 rfl rfl (by decide +kernel) rfl rfl (zU_s _ _ _ _) (Nat.le_of_ble_eq_true rfl) dJx4a65c_add_72be8_19 ?_
    exact v_vret hB q1 q2 dJx4a65c_add_72be8_22 ⟨rfl, had, cp2, q3, q4, by rw [zU_zU]; rfl⟩
  have KG : n = cp → V X RJx4a65c cJx4a65c_add_72be8 4 none 0 0 ad w 6 [some (.ref (ad 6 k)), some (.ref (ad kv n)), some (.ref (ad 7 k)), some (.int (nI n))] [] := by
    intro hcn
    refine v_aload_n dJx4a65c_add_72be8_6 rfl ?_
    refine v_cVg0 hB k_Jx4a65c_129 (pJx_grow (n := n) hG hkv hc hca h6 ?_ h20 hn (fun i hi => hel i (by omega))) ⟨by decide, by decide⟩ ⟨by decide, by decide⟩ h6 rfl (Nat.le_of_ble_eq_true rfl) dJx4a65c_add_72be8_7 ?_
    · rcases h7 with ⟨e0, e1, e2⟩ | ⟨e0, e1⟩
      · exact Or.inl ⟨by omega, e1, e2⟩
      · exact Or.inr ⟨by omega, by rw [hcn] at e1 ⊢; exact e1⟩
    rintro r ad2 w2 ⟨rfl, had, cp2, q3, q4, rfl⟩
    show V X RJx4a65c cJx4a65c_add_72be8 4 none _ _ ad2 _ 10 _ [.ref (ad2 7 k)]
    refine v_astore_n2 dJx4a65c_add_72be8_10 (by decide) ?_
    rw [← had 6 k (by omega) (by omega), ← had kv n (by omega) (by omega)]
    exact K11 _ _ cp2 ad2 (by omega) (by omega) q3 (by omega) had
  rcases h7 with ⟨e0, e1, hSt⟩ | ⟨e0, e1⟩
  · have hn0 : n = 0 := by omega
    refine v_iload_n dJx4a65c_add_72be8_0 rfl ?_
    refine v_aload_n dJx4a65c_add_72be8_1 rfl ?_
    refine v_alen0 hB hSt dJx4a65c_add_72be8_2 ?_
    refine v_icmp_ne (tgt := 11) dJx4a65c_add_72be8_3 (by decide) (fun z => absurd (by rw [hn0]; rfl) z) (fun _ => ?_)
    exact KG (by omega)
  · refine v_iload_n dJx4a65c_add_72be8_0 rfl ?_
    refine v_aload_n dJx4a65c_add_72be8_1 rfl ?_
    refine v_alen (kk := 7) (ii := k) (t := 2) (x := zq cp (xEl ad kv n)) (by decide) (by rw [hB.cy]; exact e1) dJx4a65c_add_72be8_2 ?_
    refine v_icmp_ne (tgt := 11) dJx4a65c_add_72be8_3 (by decide) (fun z => ?_) (fun z => ?_)
    · have hlt : n ≠ cp := fun y => z (congrArg nI y)
      have hs : zU (zU w 7 k (za cy cp (xEl ad kv n))) 6 k (zl mo (ad 7 k) n) = w := by rw [← e1, zU_self, ← h6, zU_self]
      refine v_w hs.symm ?_
      exact K11 0 0 cp ad (by omega) (by omega) (by omega) hcp2 (fun _ _ _ _ => rfl)
    · exact KG ((nI_eq (by omega) (by omega)).mp z)
set_option maxHeartbeats 4000000 in
set_option maxRecDepth 100000 in
theorem pJx_add {l : Launch} {D : va_G} {cy : Nat → ClassId} {s0 : State} {ad : zA} {w : zW} {k n cp : Nat} {mo : Int32} (hG : zG s0) {kv ci NN : Nat} {C : String} {T : u_T} (hkv : 8 ≤ kv ∧ kv ≤ 13) (hc : vwCl[ci]? = some (C, T, NN)) (hca : Cond.castable C "java/lang/Object" ∈ lw_tbl) (h6 : w 6 k = zl mo (ad 7 k) n) (h7 : (cp = 0 ∧ w 7 k = none ∧ zSt s0 (ad 7 k)) ∨ (0 < cp ∧ w 7 k = za cy cp (xEl ad kv n))) (hcp : n ≤ cp) (hcp2 : cp ≤ 1000) (h20 : w 20 0 = none) (hn : n ≤ 200) (hel : ∀ i, i ≤ n → ∃ fs : List Value, w kv i = some (.inr (ci, fs))) : zM l D cy s0 yJx4a65c_add_9ea2d cJx4a65c_add_9ea2d 2 (some .boolean) 7 1 310 [.ref (ad 6 k), .ref (ad kv n)] ad w (adP cy ad w k (mo + 1) n kv (some (.int 1))) := by
  refine zM_of (own := RJx4a65c) rfl (by decide) (by simp [Value.category]) (Nat.le_of_ble_eq_true rfl) ?_
  intro X hB
  show V X RJx4a65c cJx4a65c_add_9ea2d 2 (some .boolean) 0 0 ad w 0 [some (.ref (ad 6 k)), some (.ref (ad kv n))] []
  refine v_aload_n dJx4a65c_add_9ea2d_0 rfl ?_
  refine v_dup dJx4a65c_add_9ea2d_1 rfl ?_
  refine v_getS (ci := 0) (k := 0) rfl inJx4a65c (by decide) f_Jx4a65c_63 sf_al h6 rfl dJx4a65c_add_9ea2d_2 ?_
  refine v_iconst_v (v := 1) dJx4a65c_add_9ea2d_5 (by decide) ?_
  refine v_iadd dJx4a65c_add_9ea2d_6 ?_
  refine v_putS (ci := 0) (k := 0) (ty := .int) tyJx4a65c tyJx4a65c_ok nmJx4a65c rfl inJx4a65c (by decide) f_Jx4a65c_63 sf_al rfl (by decide +kernel) rfl rfl h6 (Nat.le_of_ble_eq_true rfl) dJx4a65c_add_9ea2d_7 ?_
  refine v_w (show _ = zU w 6 k (zl (mo + 1) (ad 7 k) n) from rfl) ?_
  refine v_aload_n dJx4a65c_add_9ea2d_10 rfl ?_
  refine v_aload_n dJx4a65c_add_9ea2d_11 rfl ?_
  refine v_aload_n dJx4a65c_add_9ea2d_12 rfl ?_
  refine v_get (ci := 0) (k := 1) rfl inJx4a65c (by decide) f_Jx4a65c_9 rfl (zU_s _ _ _ _) rfl dJx4a65c_add_9ea2d_13 ?_
  refine v_aload_n dJx4a65c_add_9ea2d_16 rfl ?_
  refine v_get (ci := 0) (k := 2) rfl inJx4a65c (by decide) f_Jx4a65c_48 rfl (zU_s _ _ _ _) rfl dJx4a65c_add_9ea2d_17 ?_
  refine v_cVg3 hB k_Jx4a65c_131 (pJx_add3 (k := k) (n := n) (cp := cp) (mo := mo + 1) hG hkv hc hca (zU_s _ _ _ _) ?_ hcp hcp2 (by rw [zU_n _ _ (by omega)]; exact h20) hn (fun i hi => ?_)) ⟨by decide, by decide⟩ ⟨by decide, by decide⟩ (zU_s _ _ _ _) rfl (Nat.le_of_ble_eq_true rfl) dJx4a65c_add_9ea2d_20 ?_
  · rw [zU_n _ _ (by omega)]; exact h7
  · rw [zU_n _ _ (by omega)]; exact hel i hi
  rintro r ad2 w2 ⟨rfl, had, cp2, q3, q4, rfl⟩
  show V X RJx4a65c cJx4a65c_add_9ea2d 2 (some .boolean) _ _ ad2 _ 23 _ []
  refine v_iconst_v (v := 1) dJx4a65c_add_9ea2d_23 (by decide) ?_
  refine v_zret hB (by decide) (by decide) dJx4a65c_add_9ea2d_24 rfl ⟨rfl, had, cp2, q3, q4, ?_⟩
  rw [zU_comm _ _ _ (show ¬ (6 = 7 ∧ k = k) by omega), zU_zU]
