def zBg (X : zX) (l : Launch) (D : va_G) (cy : Nat → ClassId) (s0 : State) (R : Room) : Prop := match X with
  | (_, l', _, R', _, _, _, _, _, _, _, _, D', cy', s0') => l' = l ∧ D' = D ∧ cy' = cy ∧ s0' = s0 ∧ R' = R
theorem zBg.cy {X : zX} {l : Launch} {D : va_G} {cy : Nat → ClassId} {s0 : State} {R : Room} (h : zBg X l D cy s0 R) : zcy X = cy := by
  obtain ⟨p, l, e, R, s, m, args, below, meth, c, Q, A, D, cy, s0⟩ := X
  exact h.2.2.1
section
variable {X : zX} {own : String} {cc : ByteArray} {nL : Nat} {ret : Option FieldType} {n1 n2 : Nat} {ad : zA} {w : zW} {pc : Nat} {ls : List (Option Value)} {rest : List Value} {l : Launch} {D : va_G} {cy : Nat → ClassId} {s0 : State} {R : Room}
variable {y : MethodName} {bytes : ByteArray} {maxL : Nat} {ret' : Option FieldType} {d' mc' ms' n idx : Nat} {C : String} {As : List Value} {P : Option Value → zA → zW → Prop}
theorem vg_callV {kk ii ci N : Nat} {fs : List Value} {T : u_T} (hB : zBg X l D cy s0 R) (hk : kV own idx C y bytes maxL ret' n) (hM : zM l D cy s0 y bytes maxL ret' d' mc' ms' (.ref (ad kk ii) :: As) ad w P) (hn : As.length = n) (hd : d' + 1 ≤ R.frames ∧ 8 + (maxL + 11) + 40 * d' ≤ R.locals) (hf : n1 + mc' ≤ R.cells ∧ n2 + ms' ≤ R.slots) (hw : w kk ii = some (.inr (ci, fs))) (hc : vwCl[ci]? = some (C, T, N)) (hst : (rest.map fun v => v.category).sum ≤ 8) (dd : decode cc pc = .ok (.invokevirtual idx, 3))
    (kont : ∀ r ad2 w2, P r ad2 w2 → V X own cc nL ret (n1 + mc') (n2 + ms') ad2 w2 (pc + 3) ls (r.toList ++ rest)) : V X own cc nL ret n1 n2 ad w pc ls (As.reverse ++ .ref (ad kk ii) :: rest) := by
  obtain ⟨p, l, e, R, s, m, args, below, meth, c, Q, A, D, cy, s0⟩ := X
  obtain ⟨rfl, rfl, rfl, rfl, rfl⟩ := hB
  intro C1 H locs la hR hS hA hl
  have hF : ∀ q, zF ad w H.size q → A q := by
    intro q hq
    rcases hq with ⟨k9, i9, h9, rfl⟩ | hq
    · exact hS k9 i9 h9
    · exact C1.2.2.2.2.2.2.2.2 q (Nat.le_trans hA.1 hq)
  have hr := hR.P hw
  refine z_go (va_runV (As := As) (rest := rest) ⟨C1.1, C1.2.1, C1.2.2.2.1, C1.2.2.2.2.1, C1.2.2.2.2.2.1⟩ (hM H.size) (cwV n C1.2.2.2.2.2.1 (gt_good (fun w9 h9 => ?_)) rfl rfl rfl hk.2 hd) ⟨zM_blind _ _ _ _ _ _ _, va_recv C1.2.2.2.2.2.2.2.1.1 hr (ci := ci) (q0 := 0) hc rfl, fun U hU hW => ⟨rfl, by rw [hU], by rw [hU]; exact hR, zK.moved hW C1.2.2.2.2.2.2.2.1⟩⟩ rfl hn (zL_size hl) rfl (lv_room hst) dd hf) hA hF (fun r ad2 w2 H1 locs1 hp hR2 hS2 _ _ hA2 => kont r ad2 w2 hp C1 H1 locs1 la hR2 (fun k9 i9 h9 => hF _ (hS2 k9 i9 h9)) hA2 hl)
  rcases List.mem_append.mp h9 with h9 | h9
  · obtain ⟨⟨q1, q2, q3, q4, q5⟩, -⟩ := hk
    rcases List.mem_cons.mp h9 with rfl | h9
    · exact q1
    rcases List.mem_cons.mp h9 with rfl | h9
    · exact q2
    rcases List.mem_cons.mp h9 with rfl | h9
    · exact q3
    rcases List.mem_cons.mp h9 with rfl | h9
    · exact q4
    · cases h9
  · exact gw_in hk.1.2.2.2.2 _ h9
theorem vg_callI {b : Nat} (hB : zBg X l D cy s0 R) (hk : kI own idx y bytes maxL n) (hM : zM l D cy s0 y bytes maxL none d' mc' ms' (.ref b :: As) ad w P) (hn : As.length = n) (hd : d' + 1 ≤ R.frames ∧ 8 + (maxL + 11) + 40 * d' ≤ R.locals) (hf : n1 + mc' ≤ R.cells ∧ n2 + ms' ≤ R.slots) (hst : (rest.map fun v => v.category).sum ≤ 8) (dd : decode cc pc = .ok (.invokespecial idx, 3))
    (kont : ∀ r ad2 w2, P r ad2 w2 → V X own cc nL ret (n1 + mc') (n2 + ms') ad2 w2 (pc + 3) ls (r.toList ++ rest)) : V X own cc nL ret n1 n2 ad w pc ls (As.reverse ++ .ref b :: rest) := by
  obtain ⟨p, l, e, R, s, m, args, below, meth, c, Q, A, D, cy, s0⟩ := X
  obtain ⟨rfl, rfl, rfl, rfl, rfl⟩ := hB
  intro C1 H locs la hR hS hA hl
  have hF : ∀ q, zF ad w H.size q → A q := by
    intro q hq
    rcases hq with ⟨k9, i9, h9, rfl⟩ | hq
    · exact hS k9 i9 h9
    · exact C1.2.2.2.2.2.2.2.2 q (Nat.le_trans hA.1 hq)
  have hts := C1.2.2.2.2.2.1
  exact z_go (va_runI (As := As) (rest := rest) ⟨C1.1, C1.2.1, C1.2.2.2.1, C1.2.2.2.2.1, hts⟩ (hM H.size) (cwI n hts (gt_good (gw_in hk.1.2.2.2)) rfl rfl rfl (hts _ hk.1.2.2.1) (hts _ hk.1.1) (hts _ hk.1.2.1) hk.2.1 hk.2.2 hd) ⟨zM_blind _ _ _ _ _ _ _, fun U hU hW => ⟨rfl, by rw [hU], by rw [hU]; exact hR, zK.moved hW C1.2.2.2.2.2.2.2.1⟩⟩ rfl hn (zL_size hl) rfl (lv_room hst) dd hf) hA hF (fun r ad2 w2 H1 locs1 hp hR2 hS2 _ _ hA2 => kont r ad2 w2 hp C1 H1 locs1 la hR2 (fun k9 i9 h9 => hF _ (hS2 k9 i9 h9)) hA2 hl)
theorem vg_new {kk ii ci N : Nat} {fs : List Value} {T : u_T} (hB : zBg X l D cy s0 R) (ty : Nat → FieldType) (hty : ∀ k, k < N → parseFieldDescriptor (T k).2.2.1 = some (ty k)) (hc : vwCl[ci]? = some (C, T, N)) (hin : ∀ x ∈ u_ws C T N, x ∈ gt) (hcl : Cond.classLink own idx C ∈ gt) (hins : Cond.instantiable C N ∈ gt) (hini : Cond.initialized C ∈ gt) (hfs : ∀ j, j < N → defaultValue (ty j) = vp_V fs j) (hw : w kk ii = none) (hf : n1 + 1 ≤ R.cells ∧ n2 + N ≤ R.slots) (dd : decode cc pc = .ok (.new idx, 3))
    (kont : ∀ ad2 : zA, (∀ k i, ¬ (k = kk ∧ i = ii) → ad2 k i = ad k i) → V X own cc nL ret (n1 + 1) (n2 + N) ad2 (zU w kk ii (some (.inr (ci, fs)))) (pc + 3) ls (.ref (ad2 kk ii) :: rest)) : V X own cc nL ret n1 n2 ad w pc ls rest := by
  obtain ⟨p, l, e, R, s, m, args, below, meth, c, Q, A, D, cy, s0⟩ := X
  obtain ⟨rfl, rfl, rfl, rfl, rfl⟩ := hB
  intro C1 H locs la hR hS hA hl
  have hts := C1.2.2.2.2.2.1
  have hKK : va_K D vwCl (zT cy) s := C1.2.2.2.2.2.2.2.1.1
  have hKn := hKK.1 ci _ hc
  refine W.newcK C1.1 C1.2.1 C1.2.2.2.2.1 (hts _ hcl) (hts _ hins) (hts _ hini) rfl dd hf.1 hf.2 hKn.2.1 rfl fun H1 kC hkC e1 z1 o1 => ?_
  have k9 := kont (zN ad kk ii H.size) (fun k i h => zN_n _ _ h) C1 H1 locs la (hR.new hw ⟨_, hc, (u_born ty hts hin hKn hkC e1 hty).to hfs⟩ (by omega) o1) (hS.new (C1.2.2.2.2.2.2.2.2 _ hA.1)) ⟨Nat.le_trans hA.1 (by omega), fun x h1 h2 => (o1 x (Nat.lt_of_lt_of_le h1 hA.1)).trans (hA.2.1 x h1 h2), hA.2.2⟩ hl
  rw [zN_s] at k9
  exact k9
theorem vg_newl {kk ii : Nat} {n9 : Int32} {N : Nat} (hB : zBg X l D cy s0 R) (harr : Cond.arrayClass (newarray.typeOf .long) ∈ gt) (hn : n9 = nI N) (hN : N ≤ 1000) (hw : w kk ii = none) (hf : n1 + 1 ≤ R.cells ∧ n2 + N ≤ R.slots) (dd : decode cc pc = .ok (.newarray .long, 2))
    (kont : ∀ ad2 : zA, (∀ k i, ¬ (k = kk ∧ i = ii) → ad2 k i = ad k i) → V X own cc nL ret (n1 + 1) (n2 + N) ad2 (zU w kk ii (some (.inl (cy 3, N, .inr (.inl (fun _ => 0)))))) (pc + 2) ls (.ref (ad2 kk ii) :: rest)) : V X own cc nL ret n1 n2 ad w pc ls (.int n9 :: rest) := by
  obtain ⟨p, l, e, R, s, m, args, below, meth, c, Q, A, D, cy, s0⟩ := X
  obtain ⟨rfl, rfl, rfl, rfl, rfl⟩ := hB
  intro C1 H locs la hR hS hA hl
  have hts := C1.2.2.2.2.2.1
  have hKK : va_K D vwCl (zT cy) s := C1.2.2.2.2.2.2.2.1.1
  subst hn
  refine va_newaK C1.1 C1.2.1 (hts _ harr) rfl dd rfl (nI_pos (by omega)) (nI_clamp (by omega)) (by show N * componentBytes .long ≤ _; simp only [componentBytes]; omega) hf.1 hf.2 rfl fun H1 cA e1 z1 o1 hAr hNm => ?_
  have hcA : cA = cy 3 := by
    have h9 : s.vm.findClass ("[" ++ FieldType.long.toString) = some (cy 3) := (hKK.2 3 _ rfl).2
    exact Option.some.inj (hNm.symm.trans h9)
  subst hcA
  have hat : va_at D vwCl (H.size, .inl (cy 3, N, .inr (.inl (fun _ => 0)))) H1 := by
    show H1[H.size]? = some (vp_cell _ _)
    rw [e1, vp_cell_l]
    rfl
  have k9 := kont (zN ad kk ii H.size) (fun k i h => zN_n _ _ h) C1 H1 locs la (hR.new hw hat (by omega) o1) (hS.new (C1.2.2.2.2.2.2.2.2 _ hA.1)) ⟨Nat.le_trans hA.1 (by omega), fun x h1 h2 => (o1 x (Nat.lt_of_lt_of_le h1 hA.1)).trans (hA.2.1 x h1 h2), hA.2.2⟩ hl
  rw [zN_s] at k9
  exact k9
theorem v_lald {kk ii N : Nat} {f : Nat → Int64} {i : Int32} (hw : w kk ii = some (.inl (zcy X 3, N, .inr (.inl f)))) (hi : vp_in i N) (d : decode cc pc = .ok (.laload, 1)) (kont : V X own cc nL ret n1 n2 ad w (pc + 1) ls (.long (f i.toNatClampNeg) :: rest)) : V X own cc nL ret n1 n2 ad w pc ls (.int i :: .ref (ad kk ii) :: rest) := by
  obtain ⟨p, l, e, R, s, m, args, below, meth, c, Q, A, D, cy, s0⟩ := X
  intro C1 H locs la hR hS hA hl
  exact va_lald (D := D) C1.1 C1.2.1 C1.2.2.2.2.2.2.2.1.1 (hR.P hw) 0 3 rfl rfl hi d (kont C1 H locs la hR hS hA hl)
theorem v_last {kk ii N : Nat} {f : Nat → Int64} {i : Int32} {x : Int64} (hw : w kk ii = some (.inl (zcy X 3, N, .inr (.inl f)))) (hi : vp_in i N) (d : decode cc pc = .ok (.lastore, 1)) (kont : V X own cc nL ret n1 n2 ad (zU w kk ii (some (.inl (zcy X 3, N, .inr (.inl (vp_updL f i.toNatClampNeg x)))))) (pc + 1) ls rest) : V X own cc nL ret n1 n2 ad w pc ls (.long x :: .int i :: .ref (ad kk ii) :: rest) := by
  obtain ⟨p, l, e, R, s, m, args, below, meth, c, Q, A, D, cy, s0⟩ := X
  intro C1 H locs la hR hS hA hl
  have hnn : w kk ii ≠ none := by rw [hw]; exact fun z => by cases z
  have hKK : va_K D vwCl (zT cy) s := C1.2.2.2.2.2.2.2.1.1
  refine W.last C1.1 C1.2.1 (hR.1 kk ii _ hw) ((hKK.2 3 _ rfl).1 N (fun j => .long (f j))) (fun q => by cases q) (by show ¬ (i < 0 ∨ (arrV _ _ _).slots.size ≤ _); rw [arrV_size]; exact hi) rfl rfl d fun H1 e z oq => ?_
  refine kont C1 H1 _ la (hR.put hw ?_ z oq) (hS.put hw) (hA.put z oq (hS _ _ hnn)) hl
  show H1[ad kk ii]? = some (vp_cell _ _)
  rw [e]
  rw [vp_cell_l, vp_cell_l, arrV_store]
  congr 2
  funext q
  by_cases hq : q = i.toNatClampNeg
  · subst hq
    simp [updV, vp_updL]
  · simp [updV, vp_updL, hq]
/-- the script: an array of ints that lies below the start's heap -/
theorem v_sald {b L : Nat} {xs : Nat → Int32} {i : Int32} {j : Nat} (hB : zBg X l D cy s0 R) (hX : va_X b L xs s0 s0.heap) (hi : i = nI j) (hj : j < L) (hL : L < 2 ^ 31) (d : decode cc pc = .ok (.iaload, 1)) (kont : V X own cc nL ret n1 n2 ad w (pc + 1) ls (.int (xs j) :: rest)) : V X own cc nL ret n1 n2 ad w pc ls (.int i :: .ref b :: rest) := by
  obtain ⟨p, l, e, R, s, m, args, below, meth, c, Q, A, D, cy, s0⟩ := X
  obtain ⟨rfl, rfl, rfl, rfl, rfl⟩ := hB
  intro C1 H locs la hR hS hA hl
  have hK : zK D cy s0 s := C1.2.2.2.2.2.2.2.1
  obtain ⟨scr, g1, g2, g3, g4, g5⟩ := hX.moved hK.2.1.alike
  have hc : (nI j).toNatClampNeg = j := nI_clamp (by omega)
  subst hi
  exact W.iald (v := .int (xs j)) C1.1 C1.2.1 (by rw [hR.2.2.1.2 b (Array.getElem?_eq_some_iff.mp g1).1]; exact g1) g2 g3 (by rw [g4, hc]; exact fun z => z.elim (nI_pos (by omega)) (by omega)) (by rw [hc]; exact g5 j hj) rfl rfl d (kont C1 H locs la hR hS hA hl)
theorem v_slen {b L : Nat} {xs : Nat → Int32} (hB : zBg X l D cy s0 R) (hX : va_X b L xs s0 s0.heap) (d : decode cc pc = .ok (.arraylength, 1)) (kont : V X own cc nL ret n1 n2 ad w (pc + 1) ls (.int (nI L) :: rest)) : V X own cc nL ret n1 n2 ad w pc ls (.ref b :: rest) := by
  obtain ⟨p, l, e, R, s, m, args, below, meth, c, Q, A, D, cy, s0⟩ := X
  obtain ⟨rfl, rfl, rfl, rfl, rfl⟩ := hB
  intro C1 H locs la hR hS hA hl
  have hK : zK D cy s0 s := C1.2.2.2.2.2.2.2.1
  obtain ⟨scr, g1, g2, g3, g4, g5⟩ := hX.moved hK.2.1.alike
  exact W.alen (n := nI L) C1.1 C1.2.1 (by rw [hR.2.2.1.2 b (Array.getElem?_eq_some_iff.mp g1).1]; exact g1) g2 (by rw [g4]; rfl) rfl rfl d (kont C1 H locs la hR hS hA hl)
end
/-- two worlds side by side: the kinds of S, and the others -/
def mix (S : Nat → Bool) (a b : zW) : zW := fun k i => if S k = true then a k i else b k i
def mixA (S : Nat → Bool) (a b : zA) : zA := fun k i => if S k = true then a k i else b k i
theorem zM.frame {l : Launch} {D : va_G} {cy : Nat → ClassId} {s0 : State} {y : MethodName} {cc : ByteArray} {nL : Nat} {ret : Option FieldType} {d mc ms : Nat} {av : List Value} {ad : zA} {wC : zW} {P : Option Value → zA → zW → Prop} (S : Nat → Bool) (wO : zW) (hC : ∀ k i, ¬ S k = true → wC k i = none) (h : zM l D cy s0 y cc nL ret d mc ms av ad wC P) (hP : ∀ r ad2 w2, P r ad2 w2 → ∀ k i, ¬ S k = true → w2 k i = none) : zM l D cy s0 y cc nL ret d mc ms av ad (mix S wC wO) (fun r ad2 w2 => ∃ adC wC2, P r adC wC2 ∧ ad2 = mixA S adC ad ∧ w2 = mix S wC2 wO) := by
  intro sz p e ha hc hk s m args below hf happ hP9 hK9
  obtain ⟨hav, hsz, hR, hKs⟩ := hP9
  have mS : ∀ k i, S k = true → mix S wC wO k i = wC k i := fun k i z => if_pos z
  have mN : ∀ k i, ¬ S k = true → mix S wC wO k i = wO k i := fun k i z => if_neg z
  have cS : ∀ k i, wC k i ≠ none → S k = true := fun k i z => Classical.not_not.mp (fun y => z (hC k i y))
  have cm : ∀ k i, wC k i ≠ none → mix S wC wO k i ≠ none := fun k i z => by rw [mS k i (cS k i z)]; exact z
  have hRc : zR D s0 ad wC s.heap := ⟨fun k i c hw => hR.1 k i c (by rw [mS k i (cS k i (by rw [hw]; exact fun z => by cases z))]; exact hw), fun k i k2 i2 h1 h2 => hR.2.1 k i k2 i2 (cm k i h1) (cm k2 i2 h2), hR.2.2.1, fun k i h1 => hR.2.2.2 k i (cm k i h1)⟩
  obtain ⟨n, oc, h1, h2, h3, ⟨⟨r, adC, wC2, g1, g2, gR, gS, gK⟩, gF⟩, L, g5, g6⟩ := h sz p e ha hc hk s m args below hf happ ⟨hav, hsz, hRc, hKs⟩ hK9
  have hFF : ∀ q, zF ad wC sz q → zF ad (mix S wC wO) sz q := fun q hq => by
    rcases hq with ⟨k, i, z1, z2⟩ | hq
    · exact Or.inl ⟨k, i, cm k i z1, z2⟩
    · exact Or.inr hq
  have hnF : ∀ k i, ¬ S k = true → wO k i ≠ none → ¬ zF ad wC sz (ad k i) := fun k i z1 z2 hq => by
    rcases hq with ⟨k2, i2, y1, y2⟩ | hq
    · have := hR.2.1 k2 i2 k i (cm k2 i2 y1) (by rw [mN k i z1]; exact z2) y2
      exact z1 (this.1 ▸ cS k2 i2 y1)
    · have := hR.lt (k := k) (i := i) (by rw [mN k i z1]; exact z2)
      omega
  refine ⟨n, oc, h1, h2, h3, ⟨⟨r, mixA S adC ad, mix S wC2 wO, g1, ⟨adC, wC2, g2, rfl, rfl⟩, ⟨?_, ?_, gR.2.2.1, ?_⟩, ?_, gK⟩, ?_⟩, L, g5, fun q hq => hFF _ (g6 q hq)⟩
  · intro k i c hw
    by_cases e1 : S k = true
    · rw [show mix S wC2 wO k i = wC2 k i from if_pos e1] at hw
      rw [show mixA S adC ad k i = adC k i from if_pos e1]
      exact gR.1 k i c hw
    · rw [show mix S wC2 wO k i = wO k i from if_neg e1] at hw
      rw [show mixA S adC ad k i = ad k i from if_neg e1]
      have hne : wO k i ≠ none := by rw [hw]; exact fun z => by cases z
      have hlt := hR.lt (k := k) (i := i) (by rw [mN k i e1]; exact hne)
      exact (hR.1 k i c (by rw [mN k i e1]; exact hw)).kept (gF.2 _ hlt (hnF k i e1 hne))
  · intro k i k2 i2 z1 z2 he
    by_cases e1 : S k = true <;> by_cases e2 : S k2 = true
    · rw [show mix S wC2 wO k i = wC2 k i from if_pos e1] at z1
      rw [show mix S wC2 wO k2 i2 = wC2 k2 i2 from if_pos e2] at z2
      rw [show mixA S adC ad k i = adC k i from if_pos e1, show mixA S adC ad k2 i2 = adC k2 i2 from if_pos e2] at he
      exact gR.2.1 k i k2 i2 z1 z2 he
    · rw [show mix S wC2 wO k i = wC2 k i from if_pos e1] at z1
      rw [show mix S wC2 wO k2 i2 = wO k2 i2 from if_neg e2] at z2
      rw [show mixA S adC ad k i = adC k i from if_pos e1, show mixA S adC ad k2 i2 = ad k2 i2 from if_neg e2] at he
      exact absurd (he ▸ gS k i z1) (hnF k2 i2 e2 z2)
    · rw [show mix S wC2 wO k i = wO k i from if_neg e1] at z1
      rw [show mix S wC2 wO k2 i2 = wC2 k2 i2 from if_pos e2] at z2
      rw [show mixA S adC ad k i = ad k i from if_neg e1, show mixA S adC ad k2 i2 = adC k2 i2 from if_pos e2] at he
      exact absurd (he.symm ▸ gS k2 i2 z2) (hnF k i e1 z1)
    · rw [show mix S wC2 wO k i = wO k i from if_neg e1] at z1
      rw [show mix S wC2 wO k2 i2 = wO k2 i2 from if_neg e2] at z2
      rw [show mixA S adC ad k i = ad k i from if_neg e1, show mixA S adC ad k2 i2 = ad k2 i2 from if_neg e2] at he
      exact hR.2.1 k i k2 i2 (by rw [mN k i e1]; exact z1) (by rw [mN k2 i2 e2]; exact z2) he
  · intro k i z1
    by_cases e1 : S k = true
    · rw [show mix S wC2 wO k i = wC2 k i from if_pos e1] at z1
      rw [show mixA S adC ad k i = adC k i from if_pos e1]
      exact gR.2.2.2 k i z1
    · rw [show mix S wC2 wO k i = wO k i from if_neg e1] at z1
      rw [show mixA S adC ad k i = ad k i from if_neg e1]
      exact hR.2.2.2 k i (by rw [mN k i e1]; exact z1)
  · intro k i z1
    by_cases e1 : S k = true
    · rw [show mix S wC2 wO k i = wC2 k i from if_pos e1] at z1
      rw [show mixA S adC ad k i = adC k i from if_pos e1]
      exact hFF _ (gS k i z1)
    · rw [show mix S wC2 wO k i = wO k i from if_neg e1] at z1
      rw [show mixA S adC ad k i = ad k i from if_neg e1]
      exact Or.inl ⟨k, i, by rw [mN k i e1]; exact z1, rfl⟩
  · exact ⟨gF.1, fun q q1 q2 => gF.2 q q1 (fun z => q2 (hFF q z))⟩
