section
variable {X : zX} {own : String} {cc : ByteArray} {nL : Nat} {ret : Option FieldType} {n1 n2 : Nat} {ad : zA} {w w' : zW} {pc : Nat} {ls : List (Option Value)} {rest st : List Value} {l : Launch} {D : va_G} {cy : Nat → ClassId} {s0 : State} {R : Room}
variable {y : MethodName} {bytes : ByteArray} {maxL : Nat} {ret' : Option FieldType} {d' mc' ms' n idx : Nat} {C : String} {P : Option Value → zA → zW → Prop}
theorem vg_ci {v : Int32} {kk ii ci N : Nat} {fs : List Value} {T : u_T} (As : List Value) (hB : zBg X l D cy s0 R) (hk : kV own idx C y bytes maxL ret' n) (hM : zM l D cy s0 y bytes maxL ret' d' 0 0 (.ref (ad kk ii) :: As) ad w (zPi v ad w')) (hn : As.length = n) (hst0 : st = As.reverse ++ .ref (ad kk ii) :: rest) (hd : d' + 1 ≤ R.frames ∧ 8 + (maxL + 11) + 40 * d' ≤ R.locals) (hf : n1 ≤ R.cells ∧ n2 ≤ R.slots) (hw : w kk ii = some (.inr (ci, fs))) (hc : vwCl[ci]? = some (C, T, N)) (hst : (rest.map fun v => v.category).sum ≤ 8) (dd : decode cc pc = .ok (.invokevirtual idx, 3)) (kont : V X own cc nL ret n1 n2 ad w' (pc + 3) ls (.int v :: rest)) : V X own cc nL ret n1 n2 ad w pc ls st := by
  subst hst0
  exact vg_callV hB hk hM hn hd hf hw hc hst dd (fun r ad2 w2 hp => by obtain ⟨rfl, rfl, rfl⟩ := hp; exact kont)
theorem vg_cr {v : Nat} {kk ii ci N : Nat} {fs : List Value} {T : u_T} (As : List Value) (hB : zBg X l D cy s0 R) (hk : kV own idx C y bytes maxL ret' n) (hM : zM l D cy s0 y bytes maxL ret' d' 0 0 (.ref (ad kk ii) :: As) ad w (zPr v ad w')) (hn : As.length = n) (hst0 : st = As.reverse ++ .ref (ad kk ii) :: rest) (hd : d' + 1 ≤ R.frames ∧ 8 + (maxL + 11) + 40 * d' ≤ R.locals) (hf : n1 ≤ R.cells ∧ n2 ≤ R.slots) (hw : w kk ii = some (.inr (ci, fs))) (hc : vwCl[ci]? = some (C, T, N)) (hst : (rest.map fun v => v.category).sum ≤ 8) (dd : decode cc pc = .ok (.invokevirtual idx, 3)) (kont : V X own cc nL ret n1 n2 ad w' (pc + 3) ls (.ref v :: rest)) : V X own cc nL ret n1 n2 ad w pc ls st := by
  subst hst0
  exact vg_callV hB hk hM hn hd hf hw hc hst dd (fun r ad2 w2 hp => by obtain ⟨rfl, rfl, rfl⟩ := hp; exact kont)
end
theorem zMX_of {own : String} {l : Launch} {D : va_G} {cy : Nat → ClassId} {s0 : State} {y : MethodName} {cc : ByteArray} {nL : Nat} {ret : Option FieldType} {d mc ms : Nat} {av : List Value} {ad : zA} {w : zW} (ho : y.cls = own) (hy : plainName own = true) (hc : ∀ v ∈ av, v.category = 1) (hn : av.length ≤ nL)
    (body : ∀ (X : zX) (sz : Nat), zBg X l D cy s0 (rmD d mc ms) → X.2.2.2.2.2.2.2.2.2.2.1 = vx_MQ X.2.2.2.2.2.2.2.1 (fun _ _ _ _ => False) (xXC D s0 ad w sz) X.2.2.2.2.2.2.1 X.2.2.2.2.1 mc ms (zF ad w sz) → X.2.2.2.2.2.2.2.2.2.2.2.1 = zF ad w sz → X.2.2.2.2.1.heap.size = sz → zR D s0 ad w X.2.2.2.2.1.heap → (∀ x ∈ X.2.2.2.2.2.2.2.2.2.1.exceptionTable.toList, False) → V X own cc nL ret 0 0 ad w 0 (av.map some ++ List.replicate (nL - av.length) none) []) : zMX l D cy s0 y cc nL ret d mc ms av ad w := by
  intro sz
  subst ho
  refine vx_ofW (cc := cc) (maxL := nL) (ret := ret) hy rfl ?_
  intro p e s m args below meth c s₁ B hml ht hv
  obtain ⟨rfl, hsz, hR, hK⟩ := hv
  have hts := atoms_spec (ws := gw y cc nL ret) B.pre
  have hown : s.vm.findClass y.cls = some m.cls := findClass_of_methodNamed B.named
  subst hsz
  obtain ⟨e1, e2⟩ := zL_entry hc hn
  have h := body (p, l, e, (headSpec (gw y cc nL ret) (rmD d mc ms)).room, s, m, av.toArray, below, meth, c, vx_MQ below (fun _ _ _ _ => False) (xXC D s0 ad w s.heap.size) av.toArray s mc ms (zF ad w s.heap.size), zF ad w s.heap.size, D, cy, s0) s.heap.size ⟨rfl, rfl, rfl, rfl, rfl⟩ rfl rfl rfl hR ht
    ⟨B.exec, B.bytes, B.returns, hml, hown, fun x hx => hts x (List.mem_cons_of_mem _ hx), B.notSynchronized, hK, fun q hq => Or.inr hq⟩ s.heap [] _ hR (fun k i hk => Or.inl ⟨k, i, hk, rfl⟩) va_S.rf e2
  rw [lg_entry_eq]
  exact h
set_option maxHeartbeats 4000000 in
set_option maxRecDepth 100000 in
theorem pX9_partX {l : Launch} {D : va_G} {cy : Nat → ClassId} {s0 : State} {ad : zA} {sc : Nat → Int32} {ar tau : Nat → Nat → Int32} {js mo : Nat → Int32} {cp cn al : Nat → Nat} {q3 pa : Nat → Nat → Int32} {pn : Nat → Nat} {N : Nat → Nat} {q k : Int32} (hl0 : l.stackTraces = false) (hI : MI N sc ar) (hJ : XI N ar cp cn al q3 pa pn) (hr : ¬ ((0 ≤ q ∧ q < sc 5) ∧ 0 ≤ k ∧ k < ar 28 (cl q))) : zMX l D cy s0 yX9_part cX9_part 3 (some .int) 6 1 6 [.ref (ad 0 0), .int q, .int k] ad (xW cy ad sc ar tau js mo cp cn al q3 pa pn) := by
  refine zMX_of (own := RX9) rfl (by decide) (by simp [Value.category]) (Nat.le_of_ble_eq_true rfl) ?_
  intro X sz hB hQ hAz hsz hR0 ht
  show V X RX9 cX9_part 3 (some .int) 0 0 ad (xW cy ad sc ar tau js mo cp cn al q3 pa pn) 0 [some (.ref (ad 0 0)), some (.int q), some (.int k)] []
  have K30 : ∀ ls, V X RX9 cX9_part 3 (some .int) 0 0 ad (xW cy ad sc ar tau js mo cp cn al q3 pa pn) 30 ls [] := fun ls => v_throw30 hB hl0 hQ hAz hsz hR0 ht (by decide) ⟨by decide, by decide⟩
  obtain ⟨⟨hN, b2, b3, b4, b5, b6, b7, b8, b9, b10⟩, hS, hQ2, hBl, hCh, hZ⟩ := id hI
  obtain ⟨⟨c0, c1, c2, c3, c4, c5⟩, hx, hq3⟩ := id hJ
  have x3 := hx 3 (by decide)
  refine v_aload_n dX9_part_0 rfl ?_
  refine v_iload_n dX9_part_1 rfl ?_
  refine vg_ci [.int q] hB k_X9_192 pX9_isQuill rfl rfl ⟨by decide, by decide⟩ ⟨by decide, by decide⟩ rfl rfl (Nat.le_of_ble_eq_true rfl) dX9_part_2 ?_
  refine v_if_eq (tgt := 30) dX9_part_5 (by decide) (fun h5 => K30 _) (fun h5 => ?_)
  have h5 := bI_ne.mp h5
  obtain ⟨n, hn, rfl⟩ := i_ix h5 (by omega)
  obtain ⟨k1, k2, k3, k4, k5, k6⟩ := hq3 n (by omega)
  rw [cl_nI (n := n) (by omega)] at hr
  refine v_iload_n dX9_part_8 rfl ?_
  refine v_if_lt (tgt := 30) dX9_part_9 (by decide) (fun h9 => K30 _) (fun h9 => ?_)
  refine v_iload_n dX9_part_12 rfl ?_
  refine v_aload_n dX9_part_13 rfl ?_
  refine xg_X9_22 dX9_part_14 ?_
  refine v_iload_n dX9_part_17 rfl ?_
  refine vg_cr [.int (nI n)] hB k_X9_113 (pJx4a65c_get_915e3 (k := 3) (i := n) (by omega) (by omega) (by omega) (by omega)) rfl rfl ⟨by decide, by decide⟩ ⟨by decide, by decide⟩ rfl rfl (Nat.le_of_ble_eq_true rfl) dX9_part_18 ?_
  refine v_cast (ci := 7) rfl cl_X9_170 (xW_X6 (by omega)) dX9_part_21 ?_
  refine vg_ci [] hB k_X9_199 (pX6_size (i := n) (by omega)) rfl rfl ⟨by decide, by decide⟩ ⟨by decide, by decide⟩ (xW_X6 (by omega)) rfl (Nat.le_of_ble_eq_true rfl) dX9_part_24 ?_
  refine v_icmp_lt (tgt := 40) dX9_part_27 (by decide) (fun h27 => ?_) (fun h27 => K30 _)
  refine absurd ⟨?_, ?_, by rw [← k1]; exact h27⟩ hr
  · rw [hN 5 (by decide) (by decide)]
    exact n_fit (by omega) (by omega)
  · exact Int32.not_lt.mp h9
/-- the frame of a throwing call -/
theorem zMX.frame {l : Launch} {D : va_G} {cy : Nat → ClassId} {s0 : State} {y : MethodName} {cc : ByteArray} {nL : Nat} {ret : Option FieldType} {d mc ms : Nat} {av : List Value} {ad : zA} {wC : zW} (S : Nat → Bool) (wO : zW) (hC : ∀ k i, ¬ S k = true → wC k i = none) (h : zMX l D cy s0 y cc nL ret d mc ms av ad wC) : zMX l D cy s0 y cc nL ret d mc ms av ad (mix S wC wO) := by
  intro sz p e ha hc hk s m args below hf happ hP9 hK9
  obtain ⟨hav, hsz, hR, hKs⟩ := hP9
  have mS : ∀ k i, S k = true → mix S wC wO k i = wC k i := fun k i z => if_pos z
  have mN : ∀ k i, ¬ S k = true → mix S wC wO k i = wO k i := fun k i z => if_neg z
  have cS : ∀ k i, wC k i ≠ none → S k = true := fun k i z => Classical.not_not.mp (fun y => z (hC k i y))
  have cm : ∀ k i, wC k i ≠ none → mix S wC wO k i ≠ none := fun k i z => by rw [mS k i (cS k i z)]; exact z
  have hRc : zR D s0 ad wC s.heap := ⟨fun k i c hw => hR.1 k i c (by rw [mS k i (cS k i (by rw [hw]; exact fun z => by cases z))]; exact hw), fun k i k2 i2 h1 h2 => hR.2.1 k i k2 i2 (cm k i h1) (cm k2 i2 h2), hR.2.2.1, fun k i h1 => hR.2.2.2 k i (cm k i h1)⟩
  obtain ⟨n, oc, h1, h2, h3, g⟩ := h sz p e ha hc hk s m args below hf happ ⟨hav, hsz, hRc, hKs⟩ hK9
  have hFF : ∀ q, zF ad wC sz q → zF ad (mix S wC wO) sz q := fun q hq => by
    rcases hq with ⟨k, i, z1, z2⟩ | hq
    · exact Or.inl ⟨k, i, cm k i z1, z2⟩
    · exact Or.inr hq
  have hnF : ∀ k i, ¬ S k = true → wO k i ≠ none → ¬ zF ad wC sz (ad k i) := fun k i z1 z2 hq => by
    rcases hq with ⟨k2, i2, y1, y2⟩ | hq
    · have := hR.2.1 k2 i2 k i (cm k2 i2 y1) (by rw [mN k i z1]; exact z2) y2
      exact z1 (this.1 ▸ cS k2 i2 y1)
    · have := hR.lt (k := k) (i := i) (by rw [mN k i z1]; exact z2)
      omega
  refine ⟨n, oc, h1, h2, h3, ?_⟩
  rcases g with ⟨gf, -⟩ | ⟨q, g1, E, ce, L, ⟨gE, gR, gF⟩, g2, g3, g4, g5, g6, g7⟩
  · exact gf.elim
  · refine Or.inr ⟨q, g1, E, ce, L, ⟨gE, ⟨?_, hR.2.1, gR.2.2.1, hR.2.2.2⟩, ⟨gF.1, fun q q1 q2 => gF.2 q q1 (fun z => q2 (hFF q z))⟩⟩, g2, g3, g4, g5, g6, fun z hz => hFF _ (g7 z hz)⟩
    intro k i c hw
    by_cases e1 : S k = true
    · rw [mS k i e1] at hw
      exact gR.1 k i c hw
    · rw [mN k i e1] at hw
      have hne : wO k i ≠ none := by rw [hw]; exact fun z => by cases z
      have hlt := hR.lt (k := k) (i := i) (by rw [mN k i e1]; exact hne)
      exact (hR.1 k i c (by rw [mN k i e1]; exact hw)).kept (gF.2 _ hlt (hnF k i e1 hne))
