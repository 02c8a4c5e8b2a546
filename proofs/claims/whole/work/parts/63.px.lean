set_option maxHeartbeats 4000000 in
set_option maxRecDepth 100000 in
theorem pX9_part0 {l : Launch} {D : va_G} {cy : Nat → ClassId} {s0 : State} {ad : zA} {sc : Nat → Int32} {ar tau : Nat → Nat → Int32} {js mo : Nat → Int32} {cp cn al : Nat → Nat} {q3 pa : Nat → Nat → Int32} {pn : Nat → Nat} {N : Nat → Nat} {q k : Int32} (hI : MI N sc ar) (hJ : XI N ar cp cn al q3 pa pn) (hr : (0 ≤ q ∧ q < sc 5) ∧ 0 ≤ k ∧ k < ar 28 (cl q)) : zM l D cy s0 yX9_part cX9_part 3 (some .int) 5 0 0 [.ref (ad 0 0), .int q, .int k] ad (xW cy ad sc ar tau js mo cp cn al q3 pa pn) (zPi (v_part q k sc ar) ad (xW cy ad sc ar tau js mo cp cn al q3 pa pn)) := by
  refine zM_of (own := RX9) rfl (by decide) (by simp [Value.category]) (Nat.le_of_ble_eq_true rfl) ?_
  intro X hB
  show V X RX9 cX9_part 3 (some .int) 0 0 ad (xW cy ad sc ar tau js mo cp cn al q3 pa pn) 0 [some (.ref (ad 0 0)), some (.int q), some (.int k)] []
  obtain ⟨⟨hN, b2, b3, b4, b5, b6, b7, b8, b9, b10⟩, hS, hQ, hBl, hCh, hZ⟩ := id hI
  obtain ⟨⟨c0, c1, c2, c3, c4, c5⟩, hx, hq3⟩ := id hJ
  have x0 := hx 0 (by decide)
  have x1 := hx 1 (by decide)
  have x2 := hx 2 (by decide)
  have x3 := hx 3 (by decide)
  have x4 := hx 4 (by decide)
  have x5 := hx 5 (by decide)
  have hv : v_part q k sc ar = ar 30 (4 * cl q + cl k) := if_pos hr
  obtain ⟨n, hn, rfl⟩ := i_ix (by have := hr.1; rw [hN 5 (by decide) (by decide)] at this; exact this) (by omega)
  obtain ⟨k1, k2, k3, k4, k5, k6⟩ := hq3 n hn
  rw [cl_nI (n := n) (by omega)] at hr hv
  obtain ⟨kn, hk, rfl⟩ := i_ix (by have := hr.2; rw [← k2] at this; exact this) (by omega)
  rw [cl_nI (n := kn) (by omega)] at hv
  refine v_aload_n dX9_part_0 rfl ?_
  refine v_iload_n dX9_part_1 rfl ?_
  refine v_cVi1 hB k_X9_192 pX9_isQuill (by decide) ⟨by decide, by decide⟩ rfl rfl (Nat.le_of_ble_eq_true rfl) dX9_part_2 ?_
  refine v_if_eq (tgt := 30) dX9_part_5 (by decide) (fun h5 => ?_) (fun h5 => ?_)
  · exact absurd (n_fit (by omega : n < cn 3) (by omega)) (bI_eq.mp h5)
  · refine v_iload_n dX9_part_8 rfl ?_
    refine v_if_lt (tgt := 30) dX9_part_9 (by decide) (fun h9 => ?_) (fun h9 => ?_)
    · exact absurd h9 (nI_pos (by omega))
    · refine v_iload_n dX9_part_12 rfl ?_
      refine v_aload_n dX9_part_13 rfl ?_
      refine xg_X9_22 dX9_part_14 ?_
      refine v_iload_n dX9_part_17 rfl ?_
      refine v_cVr1 hB k_X9_113 (pJx4a65c_get_915e3 (by omega) (by omega) (by omega) (by omega)) (by decide) ⟨by decide, by decide⟩ rfl rfl (Nat.le_of_ble_eq_true rfl) dX9_part_18 ?_
      refine v_cast (ci := 7) rfl cl_X9_170 (xW_X6 (by omega)) dX9_part_21 ?_
      refine v_cVi0 hB k_X9_199 (pX6_size (by omega)) (by decide) ⟨by decide, by decide⟩ (xW_X6 (by omega)) rfl (Nat.le_of_ble_eq_true rfl) dX9_part_24 ?_
      refine v_icmp_lt (tgt := 40) dX9_part_27 (by decide) (fun h27 => ?_) (fun h27 => ?_)
      · refine v_aload_n dX9_part_40 rfl ?_
        refine xg_X9_22 dX9_part_41 ?_
        refine v_iload_n dX9_part_44 rfl ?_
        refine v_cVr1 hB k_X9_113 (pJx4a65c_get_915e3 (by omega) (by omega) (by omega) (by omega)) (by decide) ⟨by decide, by decide⟩ rfl rfl (Nat.le_of_ble_eq_true rfl) dX9_part_45 ?_
        refine v_cast (ci := 7) rfl cl_X9_170 (xW_X6 (by omega)) dX9_part_48 ?_
        refine v_iload_n dX9_part_51 rfl ?_
        refine v_cVi1 hB k_X9_212 (pX6_partAt (by omega) (by omega) (by omega)) (by decide) ⟨by decide, by decide⟩ (xW_X6 (by omega)) rfl (Nat.le_of_ble_eq_true rfl) dX9_part_52 ?_
        exact v_iret hB (by decide) (by decide) dX9_part_55 ⟨by rw [hv, ← k4 kn hk], rfl, rfl⟩
      · exact absurd (by rw [k1, ← k2]; exact nI_lt hk (by omega)) h27

/-- what is known of the heap where a method has thrown -/
def xXC (D : va_G) (s0 : State) (ad : zA) (w : zW) (sz : Nat) : String → State → State → Prop := fun E st t => E = "java/util/NoSuchElementException" ∧ zR D s0 ad w t.heap ∧ va_F (zF ad w sz) st t
def zMX (l : Launch) (D : va_G) (cy : Nat → ClassId) (s0 : State) (y : MethodName) (cc : ByteArray) (nL : Nat) (ret : Option FieldType) (d mc ms : Nat) (av : List Value) (ad : zA) (w : zW) : Prop :=
  ∀ sz : Nat, vx_Met l y (gw y cc nL ret) (rmD d mc ms) (va_Pc av (fun U => U.heap.size = sz ∧ zR D s0 ad w U.heap ∧ zK D cy s0 U)) (fun _ _ _ _ => False) (xXC D s0 ad w sz) mc ms (zF ad w sz)
def nsB : List Cond := [.castable "java/util/NoSuchElementException" "java/util/NoSuchElementException", .declares ⟨"java/lang/RuntimeException", "<init>", "()V"⟩, .declares ⟨"java/lang/RuntimeException", "<init>", "(Ljava/lang/String;)V"⟩, .declares ⟨"java/lang/Exception", "<init>", "()V"⟩, .declares ⟨"java/lang/Exception", "<init>", "(Ljava/lang/String;)V"⟩, .declares ⟨"java/lang/Throwable", "<init>", "()V"⟩, .declares ⟨"java/lang/Throwable", "<init>", "(Ljava/lang/String;)V"⟩]
theorem ns_x0 : decode prog_29_method_4_code 0 = .ok (.aload_n 0, 1) := by decide +kernel
theorem ns_x1 : decode prog_29_method_4_code 1 = .ok (.aload_n 1, 1) := by decide +kernel
theorem ns_x2 : decode prog_29_method_4_code 2 = .ok (.invokespecial 13, 3) := by decide +kernel
theorem ns_x5 : decode prog_29_method_4_code 5 = .ok (.return_, 1) := by decide +kernel
theorem ns_g : ∀ w ∈ (vx_atX RX9 209 "java/util/NoSuchElementException" 13 prog_29_method_4_code "java/lang/RuntimeException" ["java/lang/Exception"]).filter goodWord, w ∈ lw_tbl := by decide +kernel
theorem ns_n : ∀ w ∈ (vx_atX RX9 209 "java/util/NoSuchElementException" 13 prog_29_method_4_code "java/lang/RuntimeException" ["java/lang/Exception"]).filter (fun w => !goodWord w), w ∈ nsB := by decide +kernel
theorem ns_o : ∀ w ∈ Cond.classLink RX9 205 "java/util/NoSuchElementException" :: Cond.initialized "java/util/NoSuchElementException" :: vx_atX RX9 209 "java/util/NoSuchElementException" 13 prog_29_method_4_code "java/lang/RuntimeException" ["java/lang/Exception"], vx_ot w = true := by decide +kernel
theorem ns_c : Cond.classLink RX9 205 "java/util/NoSuchElementException" ∈ gt := gt_of 766 (by decide +kernel) (by decide +kernel)
theorem ns_i : Cond.initialized "java/util/NoSuchElementException" ∈ gt := gt_of 73 (by decide +kernel) (by decide +kernel)
theorem ns_ca : Cond.castable "java/util/NoSuchElementException" "java/util/NoSuchElementException" ∈ lw_tbl := lw_m (i := 768) (by decide +kernel)
theorem ns_d1 : Cond.declares ⟨"java/lang/RuntimeException", "<init>", "()V"⟩ ∈ lw_tbl := lw_m (i := 769) (by decide +kernel)
theorem ns_d2 : Cond.declares ⟨"java/lang/RuntimeException", "<init>", "(Ljava/lang/String;)V"⟩ ∈ lw_tbl := lw_m (i := 770) (by decide +kernel)
theorem ns_d3 : Cond.declares ⟨"java/lang/Exception", "<init>", "()V"⟩ ∈ lw_tbl := lw_m (i := 771) (by decide +kernel)
theorem ns_d4 : Cond.declares ⟨"java/lang/Exception", "<init>", "(Ljava/lang/String;)V"⟩ ∈ lw_tbl := lw_m (i := 772) (by decide +kernel)
theorem ns_d5 : Cond.declares ⟨"java/lang/Throwable", "<init>", "()V"⟩ ∈ lw_tbl := lw_m (i := 773) (by decide +kernel)
theorem ns_d6 : Cond.declares ⟨"java/lang/Throwable", "<init>", "(Ljava/lang/String;)V"⟩ ∈ lw_tbl := lw_m (i := 774) (by decide +kernel)
theorem ns_l1 : Cond.laysStatic Bundle.tN "UNASSIGNED_STACK" Bundle.steD ∈ lw_tbl := lw_m (i := 793) (by decide +kernel)
theorem ns_l2 : Cond.laysStatic Bundle.tN "SUPPRESSED_SENTINEL" Bundle.listD ∈ lw_tbl := lw_m (i := 795) (by decide +kernel)
theorem ns_it : Cond.initialized Bundle.tN ∈ lw_tbl := List.mem_of_getElem? (i := 70) (by decide +kernel)
theorem ns_s : Cond.stringRef RX9 207 "no such strip of a quill" ∈ lw_tbl := lw_m (i := 805) (by decide +kernel)
section
variable {X : zX} {nL : Nat} {ret : Option FieldType} {n1 n2 : Nat} {ad : zA} {w : zW} {ls : List (Option Value)} {rest : List Value} {l : Launch} {D : va_G} {cy : Nat → ClassId} {s0 : State} {d mc ms : Nat}
/-- part throws at 30 -/
theorem v_throw30 {sz : Nat} (hB : zBg X l D cy s0 (rmD d mc ms)) (hl0 : l.stackTraces = false) (hQ : X.2.2.2.2.2.2.2.2.2.2.1 = vx_MQ X.2.2.2.2.2.2.2.1 (fun _ _ _ _ => False) (xXC D s0 ad w sz) X.2.2.2.2.2.2.1 X.2.2.2.2.1 mc ms (zF ad w sz)) (hAz : X.2.2.2.2.2.2.2.2.2.2.2.1 = zF ad w sz) (hsz : X.2.2.2.2.1.heap.size = sz) (hR0 : zR D s0 ad w X.2.2.2.2.1.heap) (ht : ∀ x ∈ X.2.2.2.2.2.2.2.2.2.1.exceptionTable.toList, False) (hd : 6 ≤ d) (hf : n1 + 1 ≤ mc ∧ n2 + 6 ≤ ms) : V X RX9 cX9_part nL ret n1 n2 ad w 30 ls [] := by
  obtain ⟨p, l, e, R, s, m, args, below, meth, c, Q, A, D, cy, s0⟩ := X
  obtain ⟨rfl, rfl, rfl, rfl, rfl⟩ := hB
  dsimp only at hQ hAz hsz hR0 ht
  subst hQ; subst hAz
  intro C1 H locs la hR hS hA hl
  have hts := C1.2.2.2.2.2.1
  have hK : zK D cy s0 s := C1.2.2.2.2.2.2.2.1
  have hW0 := hK.2.1
  obtain ⟨b, hb1, hb2⟩ := hK.2.2
  have hbs := flat_of_before _ hb2
  have hat : ∀ w9 ∈ vx_atX RX9 209 "java/util/NoSuchElementException" 13 prog_29_method_4_code "java/lang/RuntimeException" ["java/lang/Exception"], w9.before args s = true := by
    refine vx_hat (B := nsB) (fun w9 h9 => hts w9 (List.mem_filter.mpr ⟨ns_g w9 h9, (List.mem_filter.mp h9).2⟩)) ns_n ?_
    refine vx_c (va_Nw.use rfl (va_Nw.warmC hW0 (zG_w hK.2.2 ns_ca rfl))) (vx_c (va_Nw.use rfl (va_Nw.warmD hW0 (zG_w hK.2.2 ns_d1 rfl))) (vx_c (va_Nw.use rfl (va_Nw.warmD hW0 (zG_w hK.2.2 ns_d2 rfl))) (vx_c (va_Nw.use rfl (va_Nw.warmD hW0 (zG_w hK.2.2 ns_d3 rfl))) (vx_c (va_Nw.use rfl (va_Nw.warmD hW0 (zG_w hK.2.2 ns_d4 rfl))) (vx_c (va_Nw.use rfl (va_Nw.warmD hW0 (zG_w hK.2.2 ns_d5 rfl))) (vx_c (va_Nw.use rfl (va_Nw.warmD hW0 (zG_w hK.2.2 ns_d6 rfl))) vx_n))))))
  have hA0 : ∀ q, zF ad w sz q → s0.heap.size ≤ q := fun q hq => by
    rcases hq with ⟨k, i, z1, z2⟩ | hq
    · rw [← z2]; exact hR0.2.2.2 k i z1
    · have := hR0.2.2.1.1; omega
  have hzq : ∀ n0 d0, Cond.laysStatic Bundle.tN n0 d0 ∈ lw_tbl → (Cond.isRef (.static Bundle.tN n0 d0)).before #[.ref b] s0 = true → vx_Zq Bundle.tN n0 d0 (zF ad w sz) s s.heap := fun n0 d0 h1 h2 => by
    have e0 : vx_Zq Bundle.tN n0 d0 (fun q => s0.heap.size ≤ q) s0 s0.heap := vx_Zqof (hb1 _ h1) (hb1 _ ns_it) h2 (fun a ha z => absurd z (by omega))
    exact ((e0.moved hW0.alike).kept (fun a ha _ => hR0.2.2.1.2 a ha)).narrow hA0
  have hx := hbs (Cond.exactly (.string RX9 207) "java/lang/String") (by decide +kernel)
  obtain ⟨sa, c9, cell9, k9, q1, -⟩ := Cond.exactly_spec hx
  have hstr : vk_R RX9 207 "no such strip of a quill" sa s := vk_R.warm hW0 (vk_R.of (hb1 _ ns_s) q1)
  refine vx_throwSX (Y0 := "java/lang/RuntimeException") (rs := ["java/lang/Exception"]) (ik := 205) (is := 207) (ic := 209) (ix := 13) (rx := prog_29_method_4_code) (sa := sa) (A := zF ad w sz) C1.1 C1.2.1 hl0 ns_x0 ns_x1 ns_x2 ns_x5 C1.2.2.2.2.1 (by decide +kernel) (by decide +kernel) (hts _ ns_c) (hts _ ns_i) hstr hat ns_o (hzq _ _ ns_l1 (hbs _ (by decide +kernel))) (hzq _ _ ns_l2 (hbs _ (by decide +kernel))) hA (by rw [C1.2.2.2.1]; exact zL_size hl) dX9_part_30 dX9_part_33 dX9_part_34 dX9_part_36 dX9_part_39 (fun x hx9 => (ht x hx9).elim) ?_ ?_ hf.1 hf.2 C1.2.2.2.2.2.2.1 ?_ hA.2.2 hf.1 hf.2
  · show 2 + 3 < d; omega
  · show (([] : List Value).map fun v => v.category).sum + (13 * (2 + 1) + 43) ≤ 40 * d
    have : (([] : List Value).map fun v => v.category).sum = 0 := rfl
    omega
  · intro t _ h1 h2
    refine ⟨rfl, ⟨fun k i c0 hc => (hR.1 k i c0 hc).kept (h2 _ (hR.lt (by rw [hc]; exact fun z => by cases z))), hR.2.1, ⟨Nat.le_trans hR.2.2.1.1 h1, fun q hq => (h2 q (Nat.lt_of_lt_of_le hq hR.2.2.1.1)).trans (hR.2.2.1.2 q hq)⟩, hR.2.2.2⟩, ?_⟩
    exact ⟨Nat.le_trans hA.1 h1, fun q q1 q2 => (h2 q (Nat.lt_of_lt_of_le q1 hA.1)).trans (hA.2.1 q q1 q2)⟩
end
