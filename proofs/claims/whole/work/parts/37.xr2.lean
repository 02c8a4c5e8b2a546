theorem ac_n : Cond.native arraycopyName ∈ gt := gt_of 318 (by decide +kernel) (by decide +kernel)
theorem ac_s : Cond.static arraycopyName ∈ gt := gt_of 317 (by decide +kernel) (by decide +kernel)
theorem ac_i : Cond.initialized "java/lang/System" ∈ gt := gt_of 63 (by decide +kernel) (by decide +kernel)
theorem ac_J7_150 : Cond.methodLink RJ7 150 arraycopyName ∈ gt := gt_of 316 (by decide +kernel) (by decide +kernel)
theorem ac_X4_44 : Cond.methodLink RX4 44 arraycopyName ∈ gt := gt_of 504 (by decide +kernel) (by decide +kernel)
section
variable {X : zX} {own : String} {cc : ByteArray} {nL : Nat} {ret : Option FieldType} {n1 n2 : Nat} {ad : zA} {w : zW} {pc : Nat} {ls : List (Option Value)} {rest : List Value} {l : Launch} {D : va_G} {cy : Nat → ClassId} {s0 : State} {d mc ms : Nat} {nm : String} {Post : Option Value → zA → zW → Prop}
theorem v_cpy1 {kk ii N idx : Nat} {f : Nat → Int32} {sp dp n : Nat} (hB : zB X l D cy s0 d mc ms nm Post) (hlink : Cond.methodLink own idx arraycopyName ∈ gt) (hw : w kk ii = some (.inl (cy 0, N, .inl f))) (h1 : sp + n ≤ N) (h2 : dp + n ≤ N) (hN : N < 2 ^ 30) (hd : 1 ≤ d) (hst : (rest.map fun v => v.category).sum ≤ 8) (dd : decode cc pc = .ok (.invokestatic idx, 3))
    (kont : V X own cc nL ret n1 n2 ad (zU w kk ii (some (.inl (cy 0, N, .inl (va_cpy f f sp dp n))))) (pc + 3) ls rest) : V X own cc nL ret n1 n2 ad w pc ls (.int (nI n) :: .int (nI dp) :: .ref (ad kk ii) :: .int (nI sp) :: .ref (ad kk ii) :: rest) := by
  obtain ⟨p, l, e, R, s, m, args, below, meth, c, Q, A, D, cy, s0⟩ := X
  obtain ⟨rfl, rfl, rfl, rfl, rfl, h5, rfl⟩ := hB
  intro C1 H locs la hR hS hA hl
  have hts := C1.2.2.2.2.2.1
  have hKK : va_K D vwCl (zT cy) s := C1.2.2.2.2.2.2.2.1.1
  have hnn : w kk ii ≠ none := by rw [hw]; exact fun z => by cases z
  have hc0 : H[ad kk ii]? = some (vp_cell (cy 0) (N, .inl f)) := hR.1 kk ii _ hw
  obtain ⟨-, k0, hk0, cm0, hkk0⟩ := (hKK.2 0 _ rfl).1 N (fun j => .int (f j))
  intro T hT X1
  have es : (nI sp).toInt = (sp : Int) := nI_toInt (by omega)
  have ed : (nI dp).toInt = (dp : Int) := nI_toInt (by omega)
  have en : (nI n).toInt = (n : Int) := nI_toInt (by omega)
  obtain ⟨vm', X', step⟩ := X1.arraycopy C1.1 C1.2.2.2.2.1 (hts _ hlink) (hts _ ac_n) (hts _ ac_s) (hts _ ac_i) (src := ad kk ii) (dst := ad kk ii) (cs := vp_cell (cy 0) (N, .inl f)) (cd := vp_cell (cy 0) (N, .inl f)) (srcPos := nI sp) (destPos := nI dp) (n := nI n) (by rw [hT]; exact hc0) (by rw [hT]; exact hc0)
    (fun _ h => by cases h) (fun _ h => by cases h) (fun h => by cases h) (fun h => by cases h) hk0 hk0 hkk0 hkk0 (by simp) (nI_pos (by omega)) (nI_pos (by omega)) (nI_pos (by omega))
    (by rw [es, en]; show ¬ _ > ((arrV (cy 0) N (fun j => .int (f j))).slots.size : Int); rw [arrV_size]; omega)
    (by rw [ed, en]; show ¬ _ > ((arrV (cy 0) N (fun j => .int (f j))).slots.size : Int); rw [arrV_size]; omega)
    (fun vm₁ _ i hi => by
      rw [nI_clamp (by omega)] at hi
      have e9 : (vp_cell (cy 0) (N, .inl f)).slots.getD ((nI sp).toNatClampNeg + i) .null = .int (f ((nI sp).toNatClampNeg + i)) := by
        show (arrV (cy 0) N (fun j => .int (f j))).slots.getD _ _ = _
        rw [Array.getD_eq_getD_getElem?, arrV_read _ _ (by rw [nI_clamp (by omega)]; omega)]
        rfl
      refine ⟨?_, ?_⟩
      · rw [e9]; rfl
      · rw [e9]; exact trivial)
    (g := F0 m pc la (.int (nI n) :: .int (nI dp) :: .ref (ad kk ii) :: .int (nI sp) :: .ref (ad kk ii) :: rest)) rfl (by rw [C1.2.2.2.1]; exact zL_size hl) (rest := rest) rfl (by rw [C1.2.1]; exact dd) hd (by
      show 2 * 0 + _ + _ ≤ 40 * d
      have : nativeFrameWords "java/lang/System" "arraycopy" 5 + 11 ≤ 32 := by decide
      omega)
  have e1 : copied (vp_cell (cy 0) (N, .inl f)) (vp_cell (cy 0) (N, .inl f)) (nI sp) (nI dp) (nI n) = vp_cell (cy 0) (N, .inl (va_cpy f f (nI sp).toNatClampNeg (nI dp).toNatClampNeg (nI n).toNatClampNeg)) := va_copied (fun z => .int z) (cy 0) (cy 0) f f (by rw [nI_clamp (by omega), nI_clamp (by omega)]; exact h1)
  rw [nI_clamp (show sp < 2 ^ 31 by omega), nI_clamp (show dp < 2 ^ 31 by omega), nI_clamp (show n < 2 ^ 31 by omega)] at e1
  rw [e1] at X' step
  have hlt : ad kk ii < H.size := (Array.getElem?_eq_some_iff.mp hc0).1
  have hheap : ((T.setVm vm').setCell (ad kk ii) (vp_cell (cy 0) (N, .inl (va_cpy f f sp dp n)))).heap = H.setIfInBounds (ad kk ii) (vp_cell (cy 0) (N, .inl (va_cpy f f sp dp n))) := by rw [← hT]; rfl
  have oq : ∀ q : Nat, q ≠ ad kk ii → (H.setIfInBounds (ad kk ii) (vp_cell (cy 0) (N, .inl (va_cpy f f sp dp n))))[q]? = H[q]? := fun q hq => by simp [Array.getElem?_setIfInBounds, Ne.symm hq]
  have hz : (H.setIfInBounds (ad kk ii) (vp_cell (cy 0) (N, .inl (va_cpy f f sp dp n)))).size = H.size := by simp
  have hat : va_at D vwCl (ad kk ii, .inl (cy 0, N, .inl (va_cpy f f sp dp n))) (H.setIfInBounds (ad kk ii) (vp_cell (cy 0) (N, .inl (va_cpy f f sp dp n)))) := by
    show (H.setIfInBounds (ad kk ii) _)[ad kk ii]? = some _
    simp [Array.getElem?_setIfInBounds, hlt]
  obtain ⟨t, a1, b1⟩ := kont C1 _ _ la (hR.put hw hat hz oq) (hS.put hw) ⟨by rw [hz]; exact hA.1, fun q g1 g2 => by
      rw [oq q (fun z => g2 (by rw [z]; exact hS _ _ hnn))]
      exact hA.2.1 q g1 g2, fun q hq => by
      rcases List.mem_append.mp hq with h | h
      · exact hA.2.2 q h
      · obtain ⟨z, -, hz⟩ := List.mem_map.mp h
        rw [← hz]
        exact hS _ _ hnn⟩ hl _ hheap X'
  exact ⟨t, step t a1, b1⟩
end
