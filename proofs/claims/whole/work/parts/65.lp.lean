def isC (k : Nat) : Bool := decide (k < 15)
def isM (k : Nat) : Bool := decide (k = 30 ∨ k = 31)
theorem isC_n {k : Nat} (h : ¬ isC k = true) : 14 < k := by
  unfold isC at h
  rw [decide_eq_true_iff] at h
  omega
theorem isM_n {k : Nat} (h : ¬ isM k = true) : k ≠ 30 ∧ k ≠ 31 := by
  unfold isM at h
  rw [decide_eq_true_iff] at h
  omega
/-- the law's own array -/
def oW (cy : Nat → ClassId) (f : Nat → Int64) : zW := fun k i => if k = 40 ∧ i = 0 then some (.inl (cy 3, 1, .inr (.inl f))) else none
theorem mixA_self (S : Nat → Bool) (ad : zA) : mixA S ad ad = ad := by
  funext k i
  unfold mixA
  split <;> rfl
theorem mix_swap (a b c : zW) : mix isC a (mix isM b c) = mix isM b (mix isC a c) := by
  funext k i
  unfold mix
  by_cases h1 : isC k = true
  · have h2 : ¬ isM k = true := by
      unfold isC at h1
      unfold isM
      rw [decide_eq_true_iff] at h1 ⊢
      omega
    rw [if_pos h1, if_neg h2, if_pos h1]
  · rw [if_neg h1, if_neg h1]
theorem mix_C (a c : zW) {k : Nat} (i : Nat) (h : isC k = true) : mix isC a c k i = a k i := if_pos h
theorem mix_M (a c : zW) {k : Nat} (i : Nat) (h : isM k = true) : mix isM a c k i = a k i := if_pos h
theorem mix_40 (a b : zW) (cy : Nat → ClassId) (f : Nat → Int64) : mix isC a (mix isM b (oW cy f)) 40 0 = some (.inl (cy 3, 1, .inr (.inl f))) := rfl
theorem mix_put (a b : zW) (cy : Nat → ClassId) (f g : Nat → Int64) : zU (mix isC a (mix isM b (oW cy f))) 40 0 (some (.inl (cy 3, 1, .inr (.inl g)))) = mix isC a (mix isM b (oW cy g)) := by
  funext k i
  by_cases h : k = 40 ∧ i = 0
  · obtain ⟨rfl, rfl⟩ := h
    rw [zU_s]
    rfl
  · rw [zU_n _ _ h]
    unfold mix oW
    by_cases h1 : isC k = true
    · rw [if_pos h1, if_pos h1]
    · rw [if_neg h1, if_neg h1]
      by_cases h2 : isM k = true
      · rw [if_pos h2, if_pos h2]
      · rw [if_neg h2, if_neg h2, if_neg h, if_neg h]
def gwH (y : MethodName) (cc : ByteArray) (nL : Nat) (ret : Option FieldType) (hh : List (Nat × Nat × Nat × Nat)) : List Cond := .codeWith y cc nL ret hh :: gt
def zMH (l : Launch) (D : va_G) (cy : Nat → ClassId) (s0 : State) (y : MethodName) (cc : ByteArray) (nL : Nat) (ret : Option FieldType) (hh : List (Nat × Nat × Nat × Nat)) (d mc ms : Nat) (av : List Value) (ad : zA) (w : zW) (Post : Option Value → zA → zW → Prop) : Prop :=
  ∀ sz : Nat, Met l y (gwH y cc nL ret hh) (rmD d mc ms) (va_Pc av (fun U => U.heap.size = sz ∧ zR D s0 ad w U.heap ∧ zK D cy s0 U)) (zQ D cy s0 Post (zF ad w sz)) mc ms (zF ad w sz)
theorem zB.g {X : zX} {l : Launch} {D : va_G} {cy : Nat → ClassId} {s0 : State} {d mc ms : Nat} {nm : String} {Post : Option Value → zA → zW → Prop} (h : zB X l D cy s0 d mc ms nm Post) : zBg X l D cy s0 (rmD d mc ms) := by
  obtain ⟨p, l, e, R, s, m, args, below, meth, c, Q, A, D, cy, s0⟩ := X
  exact ⟨h.1, h.2.1, h.2.2.1, h.2.2.2.1, h.2.2.2.2.1⟩
theorem zMH_of {own : String} {l : Launch} {D : va_G} {cy : Nat → ClassId} {s0 : State} {y : MethodName} {cc : ByteArray} {nL : Nat} {ret : Option FieldType} {hh : List (Nat × Nat × Nat × Nat)} {d mc ms : Nat} {av : List Value} {ad : zA} {w : zW} {Post : Option Value → zA → zW → Prop} (ho : y.cls = own) (hy : plainName own = true) (hc : ∀ v ∈ av, v.category = 1) (hn : av.length ≤ nL)
    (body : ∀ X : zX, zB X l D cy s0 d mc ms y.name Post → X.2.2.2.2.2.2.2.2.2.1.exceptionTable.toList = tableOf hh → V X own cc nL ret 0 0 ad w 0 (av.map some ++ List.replicate (nL - av.length) none) []) : zMH l D cy s0 y cc nL ret hh d mc ms av ad w Post := by
  intro sz
  subst ho
  have h1 : vx_Met l y (gwH y cc nL ret hh) (rmD d mc ms) (va_Pc av (fun U => U.heap.size = sz ∧ zR D s0 ad w U.heap ∧ zK D cy s0 U)) (zQ D cy s0 Post (zF ad w sz)) (fun _ _ _ => False) mc ms (zF ad w sz) := by
    refine vx_ofWH (cc := cc) (maxL := nL) (ret := ret) (hh := hh) hy rfl ?_
    intro p e s m args below meth c s₁ B hml hv
    obtain ⟨rfl, hsz, hR, hK⟩ := hv
    have hts := atoms_spec (ws := gwH y cc nL ret hh) B.pre
    have hown : s.vm.findClass y.cls = some m.cls := findClass_of_methodNamed B.named
    subst hsz
    obtain ⟨e1, e2⟩ := zL_entry hc hn
    have h := body (p, l, e, (headSpec (gwH y cc nL ret hh) (rmD d mc ms)).room, s, m, av.toArray, below, meth, c, MQ below (zQ D cy s0 Post (zF ad w s.heap.size)) av.toArray s mc ms (zF ad w s.heap.size), zF ad w s.heap.size, D, cy, s0) ⟨rfl, rfl, rfl, rfl, rfl, (name_of_methodNamed B.named B.method).1, rfl⟩ (vx_table (x := y) B (hts _ List.mem_cons_self))
      ⟨B.exec, B.bytes, B.returns, hml, hown, fun x hx => hts x (List.mem_cons_of_mem _ hx), B.notSynchronized, hK, fun q hq => Or.inr hq⟩ s.heap [] _ hR (fun k i hk => Or.inl ⟨k, i, hk, rfl⟩) va_S.rf e2
    rw [lg_entry_eq]
    exact vx_ret h
  intro p e ha hc hk s m args below hf happ hP hK
  obtain ⟨n, o, a1, a2, a3, g⟩ := h1 p e ha hc hk s m args below hf happ hP hK
  rcases g with g | ⟨q, -, E, ce, L, gf, -⟩
  · exact ⟨n, o, a1, a2, a3, g⟩
  · exact gf.elim
section
variable {X : zX} {own : String} {cc : ByteArray} {nL : Nat} {ret : Option FieldType} {n1 n2 : Nat} {ad : zA} {w : zW} {pc : Nat} {ls : List (Option Value)} {rest : List Value} {l : Launch} {D : va_G} {cy : Nat → ClassId} {s0 : State} {R : Room}
variable {y : MethodName} {bytes : ByteArray} {maxL : Nat} {ret' : Option FieldType} {hh : List (Nat × Nat × Nat × Nat)} {d' mc' ms' n idx : Nat} {C : String} {As : List Value} {P : Option Value → zA → zW → Prop}
theorem vg_callSH (hB : zBg X l D cy s0 R) (hk : Cond.methodLink own idx y ∈ gt ∧ Cond.static y ∈ gt ∧ Cond.initialized y.cls ∈ gt ∧ Cond.codeWith y bytes maxL ret' hh ∈ gt) (hk2 : y.cls ≠ "java/lang/invoke/MethodHandle" ∧ y.cls ≠ "java/lang/invoke/VarHandle" ∧ (parseMethodDescriptor y.desc).map (fun d => d.parameters.length) = some n) (hM : zMH l D cy s0 y bytes maxL ret' hh d' mc' ms' As ad w P) (hn : As.length = n) (hd : d' + 1 ≤ R.frames ∧ 8 + (maxL + 11) + 40 * d' ≤ R.locals) (hf : n1 + mc' ≤ R.cells ∧ n2 + ms' ≤ R.slots) (hst : (rest.map fun v => v.category).sum ≤ 8) (dd : decode cc pc = .ok (.invokestatic idx, 3))
    (kont : ∀ r ad2 w2, P r ad2 w2 → V X own cc nL ret (n1 + mc') (n2 + ms') ad2 w2 (pc + 3) ls (r.toList ++ rest)) : V X own cc nL ret n1 n2 ad w pc ls (As.reverse ++ rest) := by
  obtain ⟨p, l, e, R, s, m, args, below, meth, c, Q, A, D, cy, s0⟩ := X
  obtain ⟨rfl, rfl, rfl, rfl, rfl⟩ := hB
  intro C1 H locs la hR hS hA hl
  have hF : ∀ q, zF ad w H.size q → A q := by
    intro q hq
    rcases hq with ⟨k9, i9, h9, rfl⟩ | hq
    · exact hS k9 i9 h9
    · exact C1.2.2.2.2.2.2.2.2 q (Nat.le_trans hA.1 hq)
  have hts := C1.2.2.2.2.2.1
  have hG : ∀ w9 ∈ va_wsS own idx y (gwH y bytes maxL ret' hh), w9 ∈ gt := by
    intro w9 h9
    rcases List.mem_append.mp h9 with h9 | h9
    · obtain ⟨q1, q2, q3, q4⟩ := hk
      rcases List.mem_cons.mp h9 with rfl | h9
      · exact q1
      rcases List.mem_cons.mp h9 with rfl | h9
      · exact q2
      rcases List.mem_cons.mp h9 with rfl | h9
      · exact q3
      · cases h9
    · rcases List.mem_cons.mp h9 with rfl | h9
      · exact hk.2.2.2
      · exact h9
  exact z_go (vx_runSW (As := As) (rest := rest) (hh := hh) ⟨C1.1, C1.2.1, C1.2.2.2.1, C1.2.2.2.2.1, hts⟩ (hM H.size) (vx_cwSW n hts (gt_good hG) rfl rfl rfl hk2 hd) ⟨zM_blind _ _ _ _ _ _ _, fun U hU hW => ⟨rfl, by rw [hU], by rw [hU]; exact hR, zK.moved hW C1.2.2.2.2.2.2.2.1⟩⟩ rfl hn (zL_size hl) rfl (lv_room hst) dd hf) hA hF (fun r ad2 w2 H1 locs1 hp hR2 hS2 _ _ hA2 => kont r ad2 w2 hp C1 H1 locs1 la hR2 (fun k9 i9 h9 => hF _ (hS2 k9 i9 h9)) hA2 hl)
/-- a call that throws, and is caught here -/
theorem v_callX {kk ii ci N : Nat} {fs : List Value} {T : u_T} (x : ExceptionTableEntry) (hB : zBg X l D cy s0 R) (hk : kV own idx C y bytes maxL ret' n) (hM : zMX l D cy s0 y bytes maxL ret' d' mc' ms' (.ref (ad kk ii) :: As) ad w) (hn : As.length = n) (hd : d' + 1 ≤ R.frames ∧ 8 + (maxL + 11) + 40 * d' ≤ R.locals) (hf : n1 + mc' ≤ R.cells ∧ n2 + ms' ≤ R.slots) (hw : w kk ii = some (.inr (ci, fs))) (hc : vwCl[ci]? = some (C, T, N)) (hst : (rest.map fun v => v.category).sum ≤ 8) (dd : decode cc pc = .ok (.invokevirtual idx, 3))
    (hx : X.2.2.2.2.2.2.2.2.2.1.exceptionTable.toList = [x]) (hcov : covers x pc = true) (h0 : x.catchType ≠ 0) (hlink : Cond.classLink own x.catchType "java/util/NoSuchElementException" ∈ gt)
    (kont : ∀ q : Nat, V X own cc nL ret (n1 + mc') (n2 + ms') ad w x.handlerPc ls [.ref q]) : V X own cc nL ret n1 n2 ad w pc ls (As.reverse ++ .ref (ad kk ii) :: rest) := by
  obtain ⟨p, l, e, R, s, m, args, below, meth, c, Q, A, D, cy, s0⟩ := X
  obtain ⟨rfl, rfl, rfl, rfl, rfl⟩ := hB
  dsimp only at hx
  intro C1 H locs la hR hS hA hl
  have hF : ∀ q, zF ad w H.size q → A q := by
    intro q hq
    rcases hq with ⟨k9, i9, h9, rfl⟩ | hq
    · exact hS k9 i9 h9
    · exact C1.2.2.2.2.2.2.2.2 q (Nat.le_trans hA.1 hq)
  have hts := C1.2.2.2.2.2.1
  have hK : zK D cy s0 s := C1.2.2.2.2.2.2.2.1
  have hr := hR.P hw
  have hG : ∀ w9 ∈ wsV own idx C y (gw y bytes maxL ret'), w9 ∈ gt := by
    intro w9 h9
    rcases List.mem_append.mp h9 with h9 | h9
    · obtain ⟨⟨q1, q2, q3, q4, q5⟩, -⟩ := hk
      rcases List.mem_cons.mp h9 with rfl | h9
      · exact q1
      rcases List.mem_cons.mp h9 with rfl | h9
      · exact q2
      rcases List.mem_cons.mp h9 with rfl | h9
      · exact q3
      rcases List.mem_cons.mp h9 with rfl | h9
      · exact q4
      · cases h9
    · exact gw_in hk.1.2.2.2.2 _ h9
  have run := vx_runV (e := e) (below := below) (meth := meth) (locs := locs) (cells := n1) (slots := n2) (g := F0 m pc la (As.reverse ++ .ref (ad kk ii) :: rest)) (As := As) (rest := rest) ⟨C1.1, C1.2.1, C1.2.2.2.1, C1.2.2.2.2.1, hts⟩ (hM H.size) (cwV n hts (gt_good hG) rfl rfl rfl hk.2 hd) ⟨zM_blind _ _ _ _ _ _ _, va_recv hK.1 hr (ci := ci) (q0 := 0) hc rfl, fun U hU hW => ⟨rfl, by rw [hU], by rw [hU]; exact hR, zK.moved hW hK⟩⟩ rfl hn (zL_size hl) rfl (lv_room hst) dd hf
  intro T9 hT X9
  rcases run T9 hT X9 with ⟨v, st₀, t, T', L, y0, X', hL, e1, e2, hfalse, st⟩ | ⟨q, st₀, t, T', L, E, ce, y0, X', hL, e1, e2, ⟨hE, hRt, hFt⟩, hce, hcv, hcl, st⟩
  · exact hfalse.elim
  · obtain ⟨k1, k2, k3⟩ := vx_keep y0 e1 hA (fun q _ h => hF q h) hF hL hFt
    subst hE
    obtain ⟨t2, a1, b1⟩ := vx_catch (ls := la) (rest := rest) (pc := pc) C1.2.2.2.2.1 [] x [] hx (fun z hz => by cases hz) hcov h0 (hts _ hlink) (va_Nw.use rfl (va_Nw.warmC hK.2.1 (zG_w hK.2.2 ns_ca rfl))) (by rw [e1]; exact hce) hcv hcl (kont q C1 T'.heap (locs ++ L) la (by rw [e1]; exact hRt) hS k3 hl) T' rfl X'
    exact ⟨t2, st.trans a1, b1⟩
theorem v_lcmp {a b : Int64} (d : decode cc pc = .ok (.lcmp, 1)) (k : V X own cc nL ret n1 n2 ad w (pc + 1) ls (.int (lg_cmp a b) :: rest)) : V X own cc nL ret n1 n2 ad w pc ls (.long b :: .long a :: rest) := by
  obtain ⟨p, l, e, R, s, m, args, below, meth, c, Q, A, D, cy, s0⟩ := X
  intro C1 H locs la hR hS hA hl
  exact W.lcmp C1.1 C1.2.1 d (k C1 H locs la hR hS hA hl)
end
theorem kh_part : Cond.methodLink RL 79 yL_part ∈ gt ∧ Cond.static yL_part ∈ gt ∧ Cond.initialized yL_part.cls ∈ gt ∧ Cond.codeWith yL_part cL_part 5 (some .int) [(0, 10, 13, 13)] ∈ gt := ⟨gt_of 758 (by decide +kernel) (by decide +kernel), gt_of 759 (by decide +kernel) (by decide +kernel), gt_of 50 (by decide +kernel) (by decide +kernel), gt_of 760 (by decide +kernel) (by decide +kernel)⟩
theorem kh_part2 : yL_part.cls ≠ "java/lang/invoke/MethodHandle" ∧ yL_part.cls ≠ "java/lang/invoke/VarHandle" ∧ (parseMethodDescriptor yL_part.desc).map (fun d => d.parameters.length) = some 4 := by decide +kernel
theorem kh_cl : Cond.classLink RL 13 "java/util/NoSuchElementException" ∈ gt := gt_of 761 (by decide +kernel) (by decide +kernel)
set_option maxHeartbeats 4000000 in
set_option maxRecDepth 100000 in
theorem pL_part {l : Launch} {D : va_G} {cy : Nat → ClassId} {s0 : State} {ad : zA} {sc : Nat → Int32} {ar tau : Nat → Nat → Int32} {js mo : Nat → Int32} {cp cn al : Nat → Nat} {q3 pa : Nat → Nat → Int32} {pn : Nat → Nat} {N : Nat → Nat} {mw : zW} {f : Nat → Int64} {q k : Int32} (hl0 : l.stackTraces = false) (hI : MI N sc ar) (hJ : XI N ar cp cn al q3 pa pn) : zMH l D cy s0 yL_part cL_part 5 (some .int) [(0, 10, 13, 13)] 7 1 6 [.ref (ad 0 0), .int q, .int k, .ref (ad 40 0)] ad (mix isC (xW cy ad sc ar tau js mo cp cn al q3 pa pn) (mix isM mw (oW cy f))) (fun r ad2 w2 => r = some (.int (x_part q k sc ar)) ∧ ad2 = ad ∧ ∃ f2 : Nat → Int64, w2 = mix isC (xW cy ad sc ar tau js mo cp cn al q3 pa pn) (mix isM mw (oW cy f2)) ∧ (x_part q k sc ar = 0 → f2 0 = (v_part q k sc ar).toInt64)) := by
  refine zMH_of (own := RL) rfl (by decide) (by simp [Value.category]) (Nat.le_of_ble_eq_true rfl) ?_
  intro X hB ht
  show V X RL cL_part 5 (some .int) 0 0 ad (mix isC (xW cy ad sc ar tau js mo cp cn al q3 pa pn) (mix isM mw (oW cy f))) 0 [some (.ref (ad 0 0)), some (.int q), some (.int k), some (.ref (ad 40 0)), none] []
  have hBg := hB.g
  refine v_aload_n dL_part_0 rfl ?_
  refine v_iconst_v (v := 0) dL_part_1 (by decide) ?_
  refine v_aload_n dL_part_2 rfl ?_
  refine v_iload_n dL_part_3 rfl ?_
  refine v_iload_n dL_part_4 rfl ?_
  by_cases hr : (0 ≤ q ∧ q < sc 5) ∧ 0 ≤ k ∧ k < ar 28 (cl q)
  · have hx0 : x_part q k sc ar = 0 := if_pos hr
    refine vg_callV (As := [.int q, .int k]) (rest := [.int 0, .ref (ad 40 0)]) hBg k_L_7 (zM.frame isC _ (fun k i h => xA_big (isC_n h)) (pX9_part0 hI hJ hr) (fun r ad2 w2 h => by obtain ⟨rfl, rfl, rfl⟩ := h; exact fun k i h => xA_big (isC_n h))) rfl ⟨by decide, by decide⟩ ⟨by decide, by decide⟩ ((mix_C _ _ 0 rfl).trans xW_X9) rfl (Nat.le_of_ble_eq_true rfl) dL_part_5 ?_
    rintro r ad2 w2 ⟨adC, wC2, ⟨rfl, rfl, rfl⟩, rfl, rfl⟩
    rw [mixA_self]
    refine v_i2l dL_part_8 ?_
    refine v_last (kk := 40) (ii := 0) (N := 1) (f := f) (by rw [hB.cy]; rfl) (by unfold vp_in; decide) dL_part_9 ?_
    rw [hB.cy, mix_put]
    refine v_goto (tgt := 17) dL_part_10 (by decide) ?_
    refine v_iconst_v (v := 0) dL_part_17 (by decide) ?_
    exact v_iret hB (by decide) (by decide) dL_part_18 ⟨by rw [hx0], rfl, _, rfl, fun _ => rfl⟩
  · have hx1 : x_part q k sc ar = 1 := if_neg hr
    refine v_callX (As := [.int q, .int k]) (rest := [.int 0, .ref (ad 40 0)]) ⟨0, 10, 13, 13⟩ hBg k_L_7 (zMX.frame isC _ (fun k i h => xA_big (isC_n h)) (pX9_partX hl0 hI hJ hr)) rfl ⟨by decide, by decide⟩ ⟨by decide, by decide⟩ ((mix_C _ _ 0 rfl).trans xW_X9) rfl (Nat.le_of_ble_eq_true rfl) dL_part_5 ht (by decide) (by decide) kh_cl (fun q9 => ?_)
    refine v_astore4 dL_part_13 (by decide) ?_
    refine v_iconst_v (v := 1) dL_part_15 (by decide) ?_
    exact v_iret hB (by decide) (by decide) dL_part_16 ⟨by rw [hx1], rfl, f, rfl, fun h => absurd (hx1.symm.trans h) (by decide)⟩
