theorem gt_good {ws : List Cond} (h : ∀ w ∈ ws, w ∈ gt) : GoodIn gt ws := fun w hw => ⟨h w hw, good_of_word (List.mem_filter.mp (h w hw)).2⟩
theorem zM_blind (D : va_G) (cy : Nat → ClassId) (s0 : State) (av : List Value) (ad : zA) (w : zW) (sz : Nat) : FrameBlind (va_Pc av (fun U => U.heap.size = sz ∧ zR D s0 ad w U.heap ∧ zK D cy s0 U)) := by
  intro a U g mk q
  obtain ⟨q0, q1, q2, q3⟩ := q
  exact ⟨q0, q1, q2, va_K.moved (u := U) (U := U.calling g mk a) (Vm.Alike.refl U.vm) q3.1, q3.2.1, q3.2.2⟩
section
variable {p : Program} {l : Launch} {e : Env} {R : Room} {s : State} {m : MethodId} {args : Array Value} {below : List Frame} {meth : Method} {c : Code} {H : Heap} {locs : List Loc} {n1 n2 : Nat} {Q : State → Prop}
variable {pc : Nat} {la : Array Slot} {rest st0 : List Value} {a : Array Value} {A F : Nat → Prop} {H0 : Heap} {mc ms : Nat} {D : va_G} {cy : Nat → ClassId} {s0 : State} {Post : Option Value → zA → zW → Prop}
theorem z_go (hr : va_Run p l e R s m args below meth c H locs n1 n2 mc ms (F0 m pc la st0) rest (zQ D cy s0 Post F a) F) (hS : va_S A H0 H locs) (hF : ∀ q, F q → A q)
    (kk : ∀ (r : Option Value) (ad : zA) (w : zW) (H1 : Heap) (locs1 : List Loc), Post r ad w → zR D s0 ad w H1 → zS w ad F → H.size ≤ H1.size → (∀ q : Nat, q < H.size → ¬ F q → H1[q]? = H[q]?) → va_S A H0 H1 locs1 → W p l e R s m args below meth c H1 locs1 (n1 + mc) (n2 + ms) Q (F0 m (pc + 3) la (r.toList ++ rest))) : W p l e R s m args below meth c H locs n1 n2 Q (F0 m pc la st0) := by
  intro T hT X
  obtain ⟨v, st₀, t, T', L, h0, X', hL, e1, e2, ⟨⟨r, ad, w, hv, hp, hR, hSw, hK⟩, hz, hk⟩, st⟩ := hr T hT X
  cases hv
  rw [h0] at hz hk
  obtain ⟨t2, a1, b1⟩ := kk v ad w T'.heap (locs ++ L) hp (by rw [e1]; exact hR) hSw (by rw [e1]; exact hz) (fun q h1 h2 => by rw [e1]; exact hk q h1 h2)
    ⟨Nat.le_trans hS.1 (by rw [e1]; exact hz), fun q h1 h2 => by rw [e1, hk q (Nat.lt_of_lt_of_le h1 hS.1) (fun z => h2 (hF q z))]; exact hS.2.1 q h1 h2, fun q hq => by
      rcases List.mem_append.mp hq with h | h
      · exact hS.2.2 q h
      · exact hF _ (hL q h)⟩ T' rfl X'
  exact ⟨t2, st t2 a1, b1⟩
end
/-- what a call needs of the tables -/
def kV (own : String) (idx : Nat) (C : String) (y : MethodName) (cc : ByteArray) (nL : Nat) (ret : Option FieldType) (n : Nat) : Prop := (Cond.methodLink own idx y ∈ gt ∧ Cond.instanceMethod y ∈ gt ∧ Cond.selects C y y ∈ gt ∧ Cond.initialized C ∈ gt ∧ Cond.code y cc nL ret ∈ gt) ∧ (y.cls = C ∧ y.cls ≠ "java/lang/invoke/MethodHandle" ∧ y.cls ≠ "java/lang/invoke/VarHandle" ∧ (parseMethodDescriptor y.desc).map (fun d => d.parameters.length) = some n)
def kS (own : String) (idx : Nat) (y : MethodName) (cc : ByteArray) (nL : Nat) (ret : Option FieldType) (n : Nat) : Prop := (Cond.methodLink own idx y ∈ gt ∧ Cond.static y ∈ gt ∧ Cond.initialized y.cls ∈ gt ∧ Cond.code y cc nL ret ∈ gt) ∧ (y.cls ≠ "java/lang/invoke/MethodHandle" ∧ y.cls ≠ "java/lang/invoke/VarHandle" ∧ (parseMethodDescriptor y.desc).map (fun d => d.parameters.length) = some n)
def kI (own : String) (idx : Nat) (y : MethodName) (cc : ByteArray) (nL : Nat) (n : Nat) : Prop := (Cond.methodLink own idx y ∈ gt ∧ Cond.instanceMethod y ∈ gt ∧ Cond.initialized y.cls ∈ gt ∧ Cond.code y cc nL none ∈ gt) ∧ (y.name = "<init>" ∧ y.cls ≠ "java/lang/invoke/MethodHandle" ∧ y.cls ≠ "java/lang/invoke/VarHandle" ∧ (parseMethodDescriptor y.desc).map (fun d => d.parameters.length) = some n)
theorem gw_in {y : MethodName} {cc : ByteArray} {nL : Nat} {ret : Option FieldType} (h : Cond.code y cc nL ret ∈ gt) : ∀ w ∈ gw y cc nL ret, w ∈ gt := by
  intro w hw
  rcases List.mem_cons.mp hw with rfl | h1
  · exact h
  · exact h1
section
variable {X : zX} {own : String} {cc : ByteArray} {nL : Nat} {ret : Option FieldType} {n1 n2 : Nat} {ad : zA} {w : zW} {pc : Nat} {ls : List (Option Value)} {rest : List Value} {l : Launch} {D : va_G} {cy : Nat → ClassId} {s0 : State} {d mc ms : Nat} {nm : String} {Post : Option Value → zA → zW → Prop}
variable {y : MethodName} {bytes : ByteArray} {maxL : Nat} {ret' : Option FieldType} {d' mc' ms' n idx : Nat} {C : String} {As : List Value} {P : Option Value → zA → zW → Prop}
theorem v_callV {kk ii ci N : Nat} {fs : List Value} {T : u_T} (hB : zB X l D cy s0 d mc ms nm Post) (hk : kV own idx C y bytes maxL ret' n) (hM : zM l D cy s0 y bytes maxL ret' d' mc' ms' (.ref (ad kk ii) :: As) ad w P) (hn : As.length = n) (hd : d' + 1 ≤ d ∧ 8 + (maxL + 11) + 40 * d' ≤ 40 * d) (hf : n1 + mc' ≤ mc ∧ n2 + ms' ≤ ms) (hw : w kk ii = some (.inr (ci, fs))) (hc : vwCl[ci]? = some (C, T, N)) (hst : (rest.map fun v => v.category).sum ≤ 8) (dd : decode cc pc = .ok (.invokevirtual idx, 3))
    (kont : ∀ r ad2 w2, P r ad2 w2 → V X own cc nL ret (n1 + mc') (n2 + ms') ad2 w2 (pc + 3) ls (r.toList ++ rest)) : V X own cc nL ret n1 n2 ad w pc ls (As.reverse ++ .ref (ad kk ii) :: rest) := by
  obtain ⟨p, l, e, R, s, m, args, below, meth, c, Q, A, D, cy, s0⟩ := X
  obtain ⟨rfl, rfl, rfl, rfl, rfl, h5, rfl⟩ := hB
  intro C1 H locs la hR hS hA hl
  have hF : ∀ q, zF ad w H.size q → A q := by
    intro q hq
    rcases hq with ⟨k9, i9, h9, rfl⟩ | hq
    · exact hS k9 i9 h9
    · exact C1.2.2.2.2.2.2.2.2 q (Nat.le_trans hA.1 hq)
  have hr := hR.P hw
  refine z_go (va_runV (As := As) (rest := rest) ⟨C1.1, C1.2.1, C1.2.2.2.1, C1.2.2.2.2.1, C1.2.2.2.2.2.1⟩ (hM H.size) (cwV n C1.2.2.2.2.2.1 (gt_good (fun w9 h9 => ?_)) rfl rfl rfl hk.2 hd) ⟨zM_blind _ _ _ _ _ _ _, va_recv C1.2.2.2.2.2.2.2.1.1 hr (ci := ci) (q0 := 0) hc rfl, fun U hU hW => ⟨rfl, by rw [hU], by rw [hU]; exact hR, zK.moved hW C1.2.2.2.2.2.2.2.1⟩⟩ rfl hn (zL_size hl) rfl (lv_room hst) dd hf) hA hF (fun r ad2 w2 H1 locs1 hp hR2 hS2 _ _ hA2 => kont r ad2 w2 hp C1 H1 locs1 la hR2 (fun k9 i9 h9 => hF _ (hS2 k9 i9 h9)) hA2 hl)
  rcases List.mem_append.mp h9 with h9 | h9
  · obtain ⟨⟨q1, q2, q3, q4, q5⟩, -⟩ := hk
    rcases List.mem_cons.mp h9 with rfl | h9
    · exact q1
    rcases List.mem_cons.mp h9 with rfl | h9
    · exact q2
    rcases List.mem_cons.mp h9 with rfl | h9
    · exact q3
    rcases List.mem_cons.mp h9 with rfl | h9
    · exact q4
    · cases h9
  · exact gw_in hk.1.2.2.2.2 _ h9
theorem v_callS (hB : zB X l D cy s0 d mc ms nm Post) (hk : kS own idx y bytes maxL ret' n) (hM : zM l D cy s0 y bytes maxL ret' d' mc' ms' As ad w P) (hn : As.length = n) (hd : d' + 1 ≤ d ∧ 8 + (maxL + 11) + 40 * d' ≤ 40 * d) (hf : n1 + mc' ≤ mc ∧ n2 + ms' ≤ ms) (hst : (rest.map fun v => v.category).sum ≤ 8) (dd : decode cc pc = .ok (.invokestatic idx, 3))
    (kont : ∀ r ad2 w2, P r ad2 w2 → V X own cc nL ret (n1 + mc') (n2 + ms') ad2 w2 (pc + 3) ls (r.toList ++ rest)) : V X own cc nL ret n1 n2 ad w pc ls (As.reverse ++ rest) := by
  obtain ⟨p, l, e, R, s, m, args, below, meth, c, Q, A, D, cy, s0⟩ := X
  obtain ⟨rfl, rfl, rfl, rfl, rfl, h5, rfl⟩ := hB
  intro C1 H locs la hR hS hA hl
  have hF : ∀ q, zF ad w H.size q → A q := by
    intro q hq
    rcases hq with ⟨k9, i9, h9, rfl⟩ | hq
    · exact hS k9 i9 h9
    · exact C1.2.2.2.2.2.2.2.2 q (Nat.le_trans hA.1 hq)
  refine z_go (va_runS (As := As) (rest := rest) ⟨C1.1, C1.2.1, C1.2.2.2.1, C1.2.2.2.2.1, C1.2.2.2.2.2.1⟩ (hM H.size) (va_cwS n C1.2.2.2.2.2.1 (gt_good (fun w9 h9 => ?_)) rfl rfl rfl hk.2 hd) ⟨zM_blind _ _ _ _ _ _ _, fun U hU hW => ⟨rfl, by rw [hU], by rw [hU]; exact hR, zK.moved hW C1.2.2.2.2.2.2.2.1⟩⟩ rfl hn (zL_size hl) rfl (lv_room hst) dd hf) hA hF (fun r ad2 w2 H1 locs1 hp hR2 hS2 _ _ hA2 => kont r ad2 w2 hp C1 H1 locs1 la hR2 (fun k9 i9 h9 => hF _ (hS2 k9 i9 h9)) hA2 hl)
  rcases List.mem_append.mp h9 with h9 | h9
  · obtain ⟨⟨q1, q2, q3, q4⟩, -⟩ := hk
    rcases List.mem_cons.mp h9 with rfl | h9
    · exact q1
    rcases List.mem_cons.mp h9 with rfl | h9
    · exact q2
    rcases List.mem_cons.mp h9 with rfl | h9
    · exact q3
    · cases h9
  · exact gw_in hk.1.2.2.2 _ h9
theorem v_callI {b : Nat} (hB : zB X l D cy s0 d mc ms nm Post) (hk : kI own idx y bytes maxL n) (hM : zM l D cy s0 y bytes maxL none d' mc' ms' (.ref b :: As) ad w P) (hn : As.length = n) (hd : d' + 1 ≤ d ∧ 8 + (maxL + 11) + 40 * d' ≤ 40 * d) (hf : n1 + mc' ≤ mc ∧ n2 + ms' ≤ ms) (hst : (rest.map fun v => v.category).sum ≤ 8) (dd : decode cc pc = .ok (.invokespecial idx, 3))
    (kont : ∀ r ad2 w2, P r ad2 w2 → V X own cc nL ret (n1 + mc') (n2 + ms') ad2 w2 (pc + 3) ls (r.toList ++ rest)) : V X own cc nL ret n1 n2 ad w pc ls (As.reverse ++ .ref b :: rest) := by
  obtain ⟨p, l, e, R, s, m, args, below, meth, c, Q, A, D, cy, s0⟩ := X
  obtain ⟨rfl, rfl, rfl, rfl, rfl, h5, rfl⟩ := hB
  intro C1 H locs la hR hS hA hl
  have hF : ∀ q, zF ad w H.size q → A q := by
    intro q hq
    rcases hq with ⟨k9, i9, h9, rfl⟩ | hq
    · exact hS k9 i9 h9
    · exact C1.2.2.2.2.2.2.2.2 q (Nat.le_trans hA.1 hq)
  have hts := C1.2.2.2.2.2.1
  exact z_go (va_runI (As := As) (rest := rest) ⟨C1.1, C1.2.1, C1.2.2.2.1, C1.2.2.2.2.1, hts⟩ (hM H.size) (cwI n hts (gt_good (gw_in hk.1.2.2.2)) rfl rfl rfl (hts _ hk.1.2.2.1) (hts _ hk.1.1) (hts _ hk.1.2.1) hk.2.1 hk.2.2 hd) ⟨zM_blind _ _ _ _ _ _ _, fun U hU hW => ⟨rfl, by rw [hU], by rw [hU]; exact hR, zK.moved hW C1.2.2.2.2.2.2.2.1⟩⟩ rfl hn (zL_size hl) rfl (lv_room hst) dd hf) hA hF (fun r ad2 w2 H1 locs1 hp hR2 hS2 _ _ hA2 => kont r ad2 w2 hp C1 H1 locs1 la hR2 (fun k9 i9 h9 => hF _ (hS2 k9 i9 h9)) hA2 hl)
theorem v_obj {a : Nat} (hB : zB X l D cy s0 d mc ms nm Post) (hlink : Cond.methodLink own idx objectInit ∈ gt) (hinst : Cond.instanceMethod objectInit ∈ gt) (hcode : Cond.code objectInit ⟨#[0xb1]⟩ 1 none ∈ gt) (hd : 1 ≤ d) (hst : (rest.map fun v => v.category).sum ≤ 8) (dd : decode cc pc = .ok (.invokespecial idx, 3)) (kont : V X own cc nL ret n1 n2 ad w (pc + 3) ls rest) : V X own cc nL ret n1 n2 ad w pc ls (.ref a :: rest) := by
  obtain ⟨p, l, e, R, s, m, args, below, meth, c, Q, A, D, cy, s0⟩ := X
  obtain ⟨rfl, rfl, rfl, rfl, rfl, h5, rfl⟩ := hB
  intro C1 H locs la hR hS hA hl
  have hts := C1.2.2.2.2.2.1
  have hr8 : 2 * (F0 m pc la (.ref a :: rest)).monitorRoom + (rest.map fun v => v.category).sum ≤ 8 := lv_room hst
  exact W.objInit C1.1 C1.2.1 C1.2.2.2.2.1 (hts _ hlink) (hts _ hinst) (hts _ hcode) rfl (by rw [C1.2.2.2.1]; exact zL_size hl) rfl dd hd (Nat.le_trans (Nat.add_le_add_right hr8 12) (by show 8 + 12 ≤ 40 * d; omega)) (kont C1 H locs la hR hS hA hl)
theorem v_max {x z : Int32} (hB : zB X l D cy s0 d mc ms nm Post) (hlink : Cond.methodLink own idx Lib.Math.max.name ∈ gt) (hs : Cond.static Lib.Math.max.name ∈ gt) (hi : Cond.initialized "java/lang/Math" ∈ gt) (hcode : Cond.code Lib.Math.max.name Lib.Math.max.code 2 (some .int) ∈ gt) (hd : 1 ≤ d) (hf : n1 ≤ mc ∧ n2 ≤ ms) (hst : (rest.map fun v => v.category).sum ≤ 8) (dd : decode cc pc = .ok (.invokestatic idx, 3)) (kont : V X own cc nL ret n1 n2 ad w (pc + 3) ls (.int (if x < z then z else x) :: rest)) : V X own cc nL ret n1 n2 ad w pc ls (.int z :: .int x :: rest) := by
  obtain ⟨p, l, e, R, s, m, args, below, meth, c, Q, A, D, cy, s0⟩ := X
  obtain ⟨rfl, rfl, rfl, rfl, rfl, h5, rfl⟩ := hB
  intro C1 H locs la hR hS hA hl
  have hts := C1.2.2.2.2.2.1
  exact va_mmax C1.1 C1.2.1 (by rw [C1.2.2.2.1]; exact (zL_size hl).symm) C1.2.2.2.2.1 (hts _ hlink) (hts _ hs) (hts _ hi) (hts _ hcode) hd (by show _ ≤ 40 * d; omega) hf.1 hf.2 dd (kont C1 H locs la hR hS hA hl)
theorem v_min {x z : Int32} (hB : zB X l D cy s0 d mc ms nm Post) (hlink : Cond.methodLink own idx Lib.Math.min.name ∈ gt) (hs : Cond.static Lib.Math.min.name ∈ gt) (hi : Cond.initialized "java/lang/Math" ∈ gt) (hcode : Cond.code Lib.Math.min.name Lib.Math.min.code 2 (some .int) ∈ gt) (hd : 1 ≤ d) (hf : n1 ≤ mc ∧ n2 ≤ ms) (hst : (rest.map fun v => v.category).sum ≤ 8) (dd : decode cc pc = .ok (.invokestatic idx, 3)) (kont : V X own cc nL ret n1 n2 ad w (pc + 3) ls (.int (if z < x then z else x) :: rest)) : V X own cc nL ret n1 n2 ad w pc ls (.int z :: .int x :: rest) := by
  obtain ⟨p, l, e, R, s, m, args, below, meth, c, Q, A, D, cy, s0⟩ := X
  obtain ⟨rfl, rfl, rfl, rfl, rfl, h5, rfl⟩ := hB
  intro C1 H locs la hR hS hA hl
  have hts := C1.2.2.2.2.2.1
  exact va_mmin C1.1 C1.2.1 (by rw [C1.2.2.2.1]; exact (zL_size hl).symm) C1.2.2.2.2.1 (hts _ hlink) (hts _ hs) (hts _ hi) (hts _ hcode) hd (by show _ ≤ 40 * d; omega) hf.1 hf.2 dd (kont C1 H locs la hR hS hA hl)
end
