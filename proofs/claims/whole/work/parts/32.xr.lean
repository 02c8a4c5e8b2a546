section
variable {X : zX} {own : String} {cc : ByteArray} {nL : Nat} {ret : Option FieldType} {n1 n2 : Nat} {ad : zA} {w : zW} {pc : Nat} {ls : List (Option Value)} {st : List Value}
theorem v_null (d : decode cc pc = .ok (.aconst_null, 1)) (k : V X own cc nL ret n1 n2 ad w (pc + 1) ls (.null :: st)) : V X own cc nL ret n1 n2 ad w pc ls st := by
  obtain ⟨p, l, e, R, s, m, args, below, meth, c, Q, A, D, cy, s0⟩ := X
  intro C H locs la hR hS hA hl
  exact lv_null C.1 C.2.1 d (k C H locs la hR hS hA hl)
theorem v_aald {kk ii n a : Nat} {f : Nat → Option Nat} {i : Int32} (hw : w kk ii = some (.inl (zcy X 2, n, .inr (.inr (.inr (.inr f)))))) (hi : vp_in i n) (hf : f i.toNatClampNeg = some a) (d : decode cc pc = .ok (.aaload, 1)) (kont : V X own cc nL ret n1 n2 ad w (pc + 1) ls (.ref a :: st)) : V X own cc nL ret n1 n2 ad w pc ls (.int i :: .ref (ad kk ii) :: st) := by
  obtain ⟨p, l, e, R, s, m, args, below, meth, c, Q, A, D, cy, s0⟩ := X
  intro C1 H locs la hR hS hA hl
  refine va_aldq (D := D) (C := "java/lang/Object") C1.1 C1.2.1 C1.2.2.2.2.2.2.2.1.1 (hR.P hw) 0 2 rfl rfl hi d ?_
  rw [hf]
  exact kont C1 H locs la hR hS hA hl
theorem v_cast {kk ii ci N idx : Nat} {fs : List Value} {C : String} {T : u_T} (hc : vwCl[ci]? = some (C, T, N)) (hl2 : Cond.classLink own idx C ∈ gt) (hw : w kk ii = some (.inr (ci, fs))) (d : decode cc pc = .ok (.checkcast idx, 3)) (kont : V X own cc nL ret n1 n2 ad w (pc + 3) ls (.ref (ad kk ii) :: st)) : V X own cc nL ret n1 n2 ad w pc ls (.ref (ad kk ii) :: st) := by
  obtain ⟨p, l, e, R, s, m, args, below, meth, c, Q, A, D, cy, s0⟩ := X
  intro C1 H locs la hR hS hA hl
  have hKK : va_K D vwCl (zT cy) s := C1.2.2.2.2.2.2.2.1.1
  exact va_castS C1.1 C1.2.1 C1.2.2.2.2.1 (C1.2.2.2.2.2.1 _ hl2) (hKK.1 ci _ hc).2 (va_recv hKK (hR.P hw) (ci := ci) (q0 := 0) hc rfl) d (kont C1 H locs la hR hS hA hl)
end
section
variable {X : zX} {own : String} {cc : ByteArray} {nL : Nat} {ret : Option FieldType} {n1 n2 : Nat} {ad : zA} {w : zW} {pc : Nat} {ls : List (Option Value)} {st : List Value} {l : Launch} {D : va_G} {cy : Nat → ClassId} {s0 : State} {d mc ms : Nat} {nm : String} {Post : Option Value → zA → zW → Prop}
theorem v_new {kk ii ci N idx : Nat} {fs : List Value} {C : String} {T : u_T} (hB : zB X l D cy s0 d mc ms nm Post) (ty : Nat → FieldType) (hty : ∀ k, k < N → parseFieldDescriptor (T k).2.2.1 = some (ty k)) (hc : vwCl[ci]? = some (C, T, N)) (hin : ∀ x ∈ u_ws C T N, x ∈ gt) (hcl : Cond.classLink own idx C ∈ gt) (hins : Cond.instantiable C N ∈ gt) (hini : Cond.initialized C ∈ gt) (hfs : ∀ j, j < N → defaultValue (ty j) = vp_V fs j) (hw : w kk ii = none) (hf : n1 + 1 ≤ mc ∧ n2 + N ≤ ms) (dd : decode cc pc = .ok (.new idx, 3))
    (kont : ∀ ad2 : zA, (∀ k i, ¬ (k = kk ∧ i = ii) → ad2 k i = ad k i) → V X own cc nL ret (n1 + 1) (n2 + N) ad2 (zU w kk ii (some (.inr (ci, fs)))) (pc + 3) ls (.ref (ad2 kk ii) :: st)) : V X own cc nL ret n1 n2 ad w pc ls st := by
  obtain ⟨p, l, e, R, s, m, args, below, meth, c, Q, A, D, cy, s0⟩ := X
  obtain ⟨rfl, rfl, rfl, rfl, rfl, h5, rfl⟩ := hB
  intro C1 H locs la hR hS hA hl
  have hts := C1.2.2.2.2.2.1
  have hKK : va_K D vwCl (zT cy) s := C1.2.2.2.2.2.2.2.1.1
  have hKn := hKK.1 ci _ hc
  refine W.newcK C1.1 C1.2.1 C1.2.2.2.2.1 (hts _ hcl) (hts _ hins) (hts _ hini) rfl dd hf.1 hf.2 hKn.2.1 rfl fun H1 kC hkC e1 z1 o1 => ?_
  have k9 := kont (zN ad kk ii H.size) (fun k i h => zN_n _ _ h) C1 H1 locs la (hR.new hw ⟨_, hc, (u_born ty hts hin hKn hkC e1 hty).to hfs⟩ (by omega) o1) (hS.new (C1.2.2.2.2.2.2.2.2 _ hA.1)) ⟨Nat.le_trans hA.1 (by omega), fun x h1 h2 => (o1 x (Nat.lt_of_lt_of_le h1 hA.1)).trans (hA.2.1 x h1 h2), hA.2.2⟩ hl
  rw [zN_s] at k9
  exact k9
theorem v_newa {kk ii t : Nat} {n : Int32} {N : Nat} {atype : ArrayType} (hB : zB X l D cy s0 d mc ms nm Post) (harr : Cond.arrayClass (newarray.typeOf atype) ∈ gt) (ht : (t = 0 ∧ newarray.typeOf atype = .int) ∨ (t = 1 ∧ newarray.typeOf atype = .boolean)) (hn : n = nI N) (hN : N ≤ 100000) (hw : w kk ii = none) (hf : n1 + 1 ≤ mc ∧ n2 + N ≤ ms) (dd : decode cc pc = .ok (.newarray atype, 2))
    (kont : ∀ ad2 : zA, (∀ k i, ¬ (k = kk ∧ i = ii) → ad2 k i = ad k i) → V X own cc nL ret (n1 + 1) (n2 + N) ad2 (zU w kk ii (some (.inl (cy t, N, .inl (fun _ => 0))))) (pc + 2) ls (.ref (ad2 kk ii) :: st)) : V X own cc nL ret n1 n2 ad w pc ls (.int n :: st) := by
  obtain ⟨p, l, e, R, s, m, args, below, meth, c, Q, A, D, cy, s0⟩ := X
  obtain ⟨rfl, rfl, rfl, rfl, rfl, h5, rfl⟩ := hB
  intro C1 H locs la hR hS hA hl
  have hts := C1.2.2.2.2.2.1
  have hKK : va_K D vwCl (zT cy) s := C1.2.2.2.2.2.2.2.1.1
  subst hn
  refine va_newaK C1.1 C1.2.1 (hts _ harr) rfl dd rfl (nI_pos (by omega)) (nI_clamp (by omega)) (by rcases ht with ⟨-, e⟩ | ⟨-, e⟩ <;> rw [e] <;> simp only [componentBytes] <;> omega) hf.1 hf.2 rfl fun H1 cA e1 z1 o1 hAr hNm => ?_
  have hcA : cA = cy t := by
    rcases ht with ⟨rfl, e⟩ | ⟨rfl, e⟩
    · have h9 : s.vm.findClass ("[" ++ FieldType.int.toString) = some (cy 0) := (hKK.2 0 _ rfl).2
      rw [e] at hNm
      exact Option.some.inj (hNm.symm.trans h9)
    · have h9 : s.vm.findClass ("[" ++ FieldType.boolean.toString) = some (cy 1) := (hKK.2 1 _ rfl).2
      rw [e] at hNm
      exact Option.some.inj (hNm.symm.trans h9)
  subst hcA
  have hat : va_at D vwCl (H.size, .inl (cy t, N, .inl (fun _ => 0))) H1 := by
    show H1[H.size]? = some (vp_cell _ _)
    rw [e1, vp_cell_i]
    rcases ht with ⟨-, e⟩ | ⟨-, e⟩ <;> rw [e] <;> rfl
  have k9 := kont (zN ad kk ii H.size) (fun k i h => zN_n _ _ h) C1 H1 locs la (hR.new hw hat (by omega) o1) (hS.new (C1.2.2.2.2.2.2.2.2 _ hA.1)) ⟨Nat.le_trans hA.1 (by omega), fun x h1 h2 => (o1 x (Nat.lt_of_lt_of_le h1 hA.1)).trans (hA.2.1 x h1 h2), hA.2.2⟩ hl
  rw [zN_s] at k9
  exact k9
end
