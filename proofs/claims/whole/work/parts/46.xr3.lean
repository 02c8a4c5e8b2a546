abbrev zq (n : Nat) (f : Nat → Option Nat) : vp_A := (n, .inr (.inr (.inr (.inr f))))
def SC : String := "java/util/ArrayList"
abbrev zSn : String := "DEFAULTCAPACITY_EMPTY_ELEMENTDATA"
abbrev zSd : String := "[Ljava/lang/Object;"
/-- t: the list's empty array of the start -/
def zSt (s0 : State) (t : Nat) : Prop := va_Z "java/util/ArrayList" zSn zSd (.ref t) (fun q => s0.heap.size ≤ q) s0 s0.heap ∧ va_T (.object "java/lang/Object") t 0 (fun _ => .null) (fun q => s0.heap.size ≤ q) s0 s0.heap
theorem lw_m {i : Nat} {c : Cond} (h : lw_tbl[i]? = some c) : c ∈ lw_tbl := List.mem_of_getElem? h
theorem lw_st : Cond.laysStatic "java/util/ArrayList" zSn zSd ∈ lw_tbl := lw_m (i := 97) (by decide +kernel)
theorem lw_si : Cond.initialized "java/util/ArrayList" ∈ lw_tbl := lw_m (i := 54) (by decide +kernel)
theorem lw_ao : Cond.arrayOver (.object "java/lang/Object") ∈ lw_tbl := lw_m (i := 311) (by decide +kernel)
theorem eq_len0 {args : Array Value} {s : State} {tm : Term} {z : Int32} (h : (Cond.eq (.length tm) (.int z)).before args s = true) : (Term.length tm).eval args s none [] s = some (.int z) := by
  cases hv : (Term.length tm).eval args s none [] s with
  | none => simp [Cond.before, Cond.holds, Cond.value, hv] at h
  | some w =>
    have hz : (Term.int z).eval args s none [] s = some (.int z) := rfl
    simp only [Cond.before, Cond.holds, Cond.value, hv, hz] at h
    cases w <;> simp_all
theorem zSt.ex {s0 : State} (h : zG s0) : ∃ t, zSt s0 t := by
  obtain ⟨b, h1, h2⟩ := h
  have hs := flat_of_before _ h2
  have harr : (Cond.arrayOf (.static "java/util/ArrayList" zSn zSd) (.object "java/lang/Object")).before #[.ref b] s0 = true := hs _ (by decide +kernel)
  have hlen := eq_len0 (show (Cond.eq (.length (.static "java/util/ArrayList" zSn zSd)) (.int 0)).before #[.ref b] s0 = true from hs _ (by decide +kernel))
  obtain ⟨t, ht, hT⟩ := va_Tof (N := 0) (f := fun _ => .null) (A := fun q => s0.heap.size ≤ q) (by decide) harr hlen (fun j hj => absurd hj (Nat.not_lt_zero _)) (fun a ha z => absurd z (by omega))
  exact ⟨t, va_Zof (h1 _ lw_st) (h1 _ lw_si) ht (fun a ha z => absurd z (by omega)), hT⟩
def zMi (s0 : State) (mi : Nat) : Prop := va_Mi "[Ljava/lang/Object;" mi s0
theorem zMi.ex {s0 : State} (h : zG s0) : ∃ mi, zMi s0 mi := by
  obtain ⟨b, h1, h2⟩ := h
  have hs := flat_of_before _ h2
  exact va_Mi.of (args := #[.ref b]) (hs _ (by decide +kernel))
theorem zG_w {s0 : State} (h : zG s0) {c : Cond} (hc : c ∈ lw_tbl) (ht : c.onTables = true) : va_Nw c s0 := by
  obtain ⟨b, h1, -⟩ := h
  exact va_Nw.of ht (h1 _ hc)
theorem zR.mv {D : va_G} {s0 : State} {ad : zA} {w : zW} {H : Heap} (h : zR D s0 ad w H) {k i k1 i1 : Nat} {c : va_E} (hw : w k i = some c) (hne : ¬ (k1 = k ∧ i1 = i)) : zR D s0 (zN ad k1 i1 (ad k i)) (zU (zU w k i none) k1 i1 (some c)) H := by
  obtain ⟨a1, a2, a3, a4⟩ := h
  have hnn : w k i ≠ none := by rw [hw]; exact fun z => by cases z
  have key : ∀ k2 i2, zU (zU w k i none) k1 i1 (some c) k2 i2 ≠ none → (k2 = k1 ∧ i2 = i1 ∧ zN ad k1 i1 (ad k i) k2 i2 = ad k i) ∨ (¬ (k2 = k1 ∧ i2 = i1) ∧ ¬ (k2 = k ∧ i2 = i) ∧ zN ad k1 i1 (ad k i) k2 i2 = ad k2 i2 ∧ w k2 i2 ≠ none) := by
    intro k2 i2 hz
    by_cases e : k2 = k1 ∧ i2 = i1
    · left; exact ⟨e.1, e.2, by rw [e.1, e.2, zN_s]⟩
    · right
      rw [zU_n _ _ e] at hz
      have e2 : ¬ (k2 = k ∧ i2 = i) := fun z => hz (by rw [z.1, z.2, zU_s])
      rw [zU_n _ _ e2] at hz
      exact ⟨e, e2, zN_n _ _ e, hz⟩
  refine ⟨?_, ?_, a3, ?_⟩
  · intro k2 i2 c2 hc2
    rcases key k2 i2 (by rw [hc2]; exact fun z => by cases z) with ⟨e1, e2, e3⟩ | ⟨e1, e2, e3, e4⟩
    · rw [e1, e2, zU_s] at hc2
      cases hc2
      rw [e3]; exact a1 k i c hw
    · rw [zU_n _ _ e1, zU_n _ _ e2] at hc2
      rw [e3]; exact a1 k2 i2 c2 hc2
  · intro k2 i2 k3 i3 h2 h3 he
    rcases key k2 i2 h2 with ⟨e1, e2, e3⟩ | ⟨e1, e2, e3, e4⟩ <;> rcases key k3 i3 h3 with ⟨f1, f2, f3⟩ | ⟨f1, f2, f3, f4⟩
    · exact ⟨e1.trans f1.symm, e2.trans f2.symm⟩
    · rw [e3, f3] at he
      have := a2 k i k3 i3 hnn f4 he
      exact absurd ⟨this.1.symm, this.2.symm⟩ f2
    · rw [e3, f3] at he
      have := a2 k2 i2 k i e4 hnn he
      exact absurd this e2
    · rw [e3, f3] at he
      exact a2 k2 i2 k3 i3 e4 f4 he
  · intro k2 i2 h2
    rcases key k2 i2 h2 with ⟨e1, e2, e3⟩ | ⟨e1, e2, e3, e4⟩
    · rw [e3]; exact a4 k i hnn
    · rw [e3]; exact a4 k2 i2 e4
section
variable {X : zX} {own : String} {cc : ByteArray} {nL : Nat} {ret : Option FieldType} {n1 n2 : Nat} {ad : zA} {w : zW} {pc : Nat} {ls : List (Option Value)} {st : List Value}
theorem v_mv {k i k1 i1 : Nat} {c : va_E} (hw : w k i = some c) (hne : ¬ (k1 = k ∧ i1 = i)) (kont : V X own cc nL ret n1 n2 (zN ad k1 i1 (ad k i)) (zU (zU w k i none) k1 i1 (some c)) pc ls st) : V X own cc nL ret n1 n2 ad w pc ls st := by
  obtain ⟨p, l, e, R, s, m, args, below, meth, c0, Q, A, D, cy, s0⟩ := X
  intro C1 H locs la hR hS hA hl
  refine kont C1 H locs la (hR.mv hw hne) (fun k2 i2 h2 => ?_) hA hl
  by_cases e : k2 = k1 ∧ i2 = i1
  · rw [e.1, e.2, zN_s]; exact hS k i (by rw [hw]; exact fun z => by cases z)
  · rw [zU_n _ _ e] at h2
    rw [zN_n _ _ e]
    refine hS k2 i2 (fun z => h2 ?_)
    by_cases e2 : k2 = k ∧ i2 = i
    · rw [e2.1, e2.2, zU_s]
    · rw [zU_n _ _ e2]; exact z
theorem v_acmp_eq {off : Int} {tgt a b : Nat} (dd : decode cc pc = .ok (.if_acmp .eq off, 3)) (ht : (pc : Int) + off = (tgt : Int)) (kt : a = b → V X own cc nL ret n1 n2 ad w tgt ls st) (kf : ¬ a = b → V X own cc nL ret n1 n2 ad w (pc + 3) ls st) : V X own cc nL ret n1 n2 ad w pc ls (.ref b :: .ref a :: st) := by
  obtain ⟨p, l, e, R, s, m, args, below, meth, c, Q, A, D, cy, s0⟩ := X
  intro C1 H locs la hR hS hA hl
  exact lv_acmp_eq (rx := some a) (ry := some b) C1.1 C1.2.1 dd ht (fun e => kt (Option.some.inj e) C1 H locs la hR hS hA hl) (fun e => kf (fun z => e (congrArg some z)) C1 H locs la hR hS hA hl)
theorem v_acmp_ne {off : Int} {tgt a b : Nat} (dd : decode cc pc = .ok (.if_acmp .ne off, 3)) (ht : (pc : Int) + off = (tgt : Int)) (kt : ¬ a = b → V X own cc nL ret n1 n2 ad w tgt ls st) (kf : a = b → V X own cc nL ret n1 n2 ad w (pc + 3) ls st) : V X own cc nL ret n1 n2 ad w pc ls (.ref b :: .ref a :: st) := by
  obtain ⟨p, l, e, R, s, m, args, below, meth, c, Q, A, D, cy, s0⟩ := X
  intro C1 H locs la hR hS hA hl
  exact lv_acmp_ne (rx := some a) (ry := some b) C1.1 C1.2.1 dd ht (fun e => kt (fun z => e (congrArg some z)) C1 H locs la hR hS hA hl) (fun e => kf (Option.some.inj e) C1 H locs la hR hS hA hl)
theorem v_getS {kk ii ci k N index : Nat} {fs : List Value} {C ref : String} {T : u_T} {v : Value} (hc : vwCl[ci]? = some (C, T, N)) (hin : ∀ x ∈ u_ws C T N, x ∈ gt) (hk : k < N) (hlink : Cond.fieldLink own index ref (T k).2.1 (T k).2.2.1 ∈ gt) (hsame : Cond.sameField ref (T k).1 (T k).2.1 (T k).2.2.1 ∈ gt) (hw : w kk ii = some (.inr (ci, fs))) (hv : fs[k]? = some v) (d : decode cc pc = .ok (.getfield index, 3)) (kont : V X own cc nL ret n1 n2 ad w (pc + 3) ls (v :: st)) : V X own cc nL ret n1 n2 ad w pc ls (.ref (ad kk ii) :: st) := by
  obtain ⟨p, l, e, R, s, m, args, below, meth, c, Q, A, D, cy, s0⟩ := X
  intro C1 H locs la hR hS hA hl
  exact va_get (D := D) (tys := zT cy) C1.1 C1.2.1 C1.2.2.2.2.2.1 hin C1.2.2.2.2.1 C1.2.2.2.2.2.2.2.1.1 (hR.P hw) 0 rfl hc k hk (C1.2.2.2.2.2.1 _ hlink) (u_same (C1.2.2.2.2.2.1 _ hsame)) hv d (kont C1 H locs la hR hS hA hl)
theorem v_putS {kk ii ci k N index : Nat} {fs : List Value} {C ref : String} {T : u_T} {ty : FieldType} {v : Value} (ty0 : Nat → FieldType) (hty : ∀ k, k < N → parseFieldDescriptor (T k).2.2.1 = some (ty0 k)) (hnm : ∀ a, a < N → ∀ b, b < N → a ≠ b → (T a).2.1 ≠ (T b).2.1) (hc : vwCl[ci]? = some (C, T, N)) (hin : ∀ x ∈ u_ws C T N, x ∈ gt) (hk : k < N) (hlink : Cond.fieldLink own index ref (T k).2.1 (T k).2.2.1 ∈ gt) (hsame : Cond.sameField ref (T k).1 (T k).2.1 (T k).2.2.1 ∈ gt) (hfin : (T k).2.2.2 = false) (hd : parseFieldDescriptor (T k).2.2.1 = some ty) (hn : narrow ty v = v) (hfit : fits ty v = true) (hw : w kk ii = some (.inr (ci, fs))) (hl2 : k < fs.length) (d : decode cc pc = .ok (.putfield index, 3)) (kont : V X own cc nL ret n1 n2 ad (zU w kk ii (some (.inr (ci, fs.set k v)))) (pc + 3) ls st) : V X own cc nL ret n1 n2 ad w pc ls (v :: .ref (ad kk ii) :: st) := by
  obtain ⟨p, l, e, R, s, m, args, below, meth, c, Q, A, D, cy, s0⟩ := X
  intro C1 H locs la hR hS hA hl
  have hnn : w kk ii ≠ none := by rw [hw]; exact fun z => by cases z
  obtain ⟨r, h1, cell, q1, q2, q3, q4⟩ := hR.1 kk ii _ hw
  have hr : r = (C, T, N) := Option.some.inj (h1.symm.trans hc)
  subst hr
  have hts := C1.2.2.2.2.2.1
  have hKK : va_K D vwCl (zT cy) s := C1.2.2.2.2.2.2.2.1.1
  have hap := va_apart (own := own) hts hin ty0 hty hnm hKK hc
  obtain ⟨hSl, hfc, kC, hkC, hkind⟩ := hKK.1 ci _ hc
  obtain ⟨cf, kf, fi, f, hi, hsl⟩ := hSl k hk
  have hlay := hts _ (hin _ (u_in_lay hk))
  unfold u_lay at hlay
  rw [if_neg (by rw [hfin]; decide)] at hlay
  have hst := (u_facts hfc hkC (u_lays hts hin hk) hi).1
  have h6 := u_store hfc hkC hkind hlay hi hd hn hfit
  have hi2 : s.fieldFound? ref (T k).2.1 (T k).2.2.1 = some (cf, kf, fi, f) := u_same (hts _ hsame) _ hi
  refine W.putK C1.1 C1.2.1 (f := f) ⟨C1.2.2.2.2.1, hts _ hlink, ⟨_, _, _, hi2⟩, hst⟩ (by rw [q2]; exact h6) q1 q3 (by rw [hsl]; exact k2_hasslot (q4 k hk)) rfl rfl d fun H' e1 e2 e3 => ?_
  rw [hsl] at e1 ⊢
  exact kont C1 H' _ la (hR.put hw ⟨_, hc, t_OB.to (V := updV (vp_V fs) k v) ⟨_, e1, q2, q3, t_set q4 hap hk v⟩ (fun j _ => vp_updV_set hl2 v j)⟩ e2 e3) (hS.put hw) (hA.put e2 e3 (hS _ _ hnn)) hl
end
section
variable {X : zX} {own : String} {cc : ByteArray} {nL : Nat} {ret : Option FieldType} {n1 n2 : Nat} {ad : zA} {w : zW} {pc : Nat} {ls : List (Option Value)} {st : List Value} {l : Launch} {D : va_G} {cy : Nat → ClassId} {s0 : State} {d mc ms : Nat} {nm : String} {Post : Option Value → zA → zW → Prop}
theorem v_sget {t index : Nat} (hB : zB X l D cy s0 d mc ms nm Post) (hSt : zSt s0 t) (hlink : Cond.fieldLink own index "java/util/ArrayList" zSn zSd ∈ gt) (dd : decode cc pc = .ok (.getstatic index, 3)) (kont : V X own cc nL ret n1 n2 ad w (pc + 3) ls (.ref t :: st)) : V X own cc nL ret n1 n2 ad w pc ls st := by
  obtain ⟨p, l, e, R, s, m, args, below, meth, c, Q, A, D, cy, s0⟩ := X
  obtain ⟨rfl, rfl, rfl, rfl, rfl, h5, rfl⟩ := hB
  intro C1 H locs la hR hS hA hl
  have hts := C1.2.2.2.2.2.1
  have hK : zK D cy s0 s := C1.2.2.2.2.2.2.2.1
  obtain ⟨cf, kf, fi, f, a, cell, g1, g2, g3, g4, g5, g6, g7, g8⟩ := hSt.1.moved hK.2.1.alike
  exact W.gets C1.1 C1.2.1 C1.2.2.2.2.1 (hts _ hlink) g1 g2 g3 g4 (by rw [hR.2.2.1.2 a (Array.getElem?_eq_some_iff.mp g5).1]; exact g5) (fun e => by rw [e] at g6; cases g6) g7 rfl dd (kont C1 H locs la hR hS hA hl)
theorem v_alen0 {t : Nat} (hB : zB X l D cy s0 d mc ms nm Post) (hSt : zSt s0 t) (dd : decode cc pc = .ok (.arraylength, 1)) (kont : V X own cc nL ret n1 n2 ad w (pc + 1) ls (.int 0 :: st)) : V X own cc nL ret n1 n2 ad w pc ls (.ref t :: st) := by
  obtain ⟨p, l, e, R, s, m, args, below, meth, c, Q, A, D, cy, s0⟩ := X
  obtain ⟨rfl, rfl, rfl, rfl, rfl, h5, rfl⟩ := hB
  intro C1 H locs la hR hS hA hl
  have hK : zK D cy s0 s := C1.2.2.2.2.2.2.2.1
  obtain ⟨cell, g1, g2, g3, g4, g5, g6, g7⟩ := hSt.2.moved hK.2.1.alike
  exact W.alen (n := Int32.ofNat 0) C1.1 C1.2.1 (by rw [hR.2.2.1.2 t (Array.getElem?_eq_some_iff.mp g1).1]; exact g1) g2 g5 rfl rfl dd (kont C1 H locs la hR hS hA hl)
theorem v_anew {kk ii N idx : Nat} {n : Int32} (hB : zB X l D cy s0 d mc ms nm Post) (hcl : Cond.classLink own idx "java/lang/Object" ∈ gt) (hn : n = nI N) (hN : N ≤ 100000) (hw : w kk ii = none) (hf : n1 + 1 ≤ mc ∧ n2 + N ≤ ms) (dd : decode cc pc = .ok (.anewarray idx, 3))
    (kont : ∀ ad2 : zA, (∀ k i, ¬ (k = kk ∧ i = ii) → ad2 k i = ad k i) → V X own cc nL ret (n1 + 1) (n2 + N) ad2 (zU w kk ii (some (.inl (cy 2, zq N (fun _ => none))))) (pc + 3) ls (.ref (ad2 kk ii) :: st)) : V X own cc nL ret n1 n2 ad w pc ls (.int n :: st) := by
  obtain ⟨p, l, e, R, s, m, args, below, meth, c, Q, A, D, cy, s0⟩ := X
  obtain ⟨rfl, rfl, rfl, rfl, rfl, h5, rfl⟩ := hB
  intro C1 H locs la hR hS hA hl
  have hts := C1.2.2.2.2.2.1
  have hK : zK D cy s0 s := C1.2.2.2.2.2.2.2.1
  have hover : va_AO "java/lang/Object" s := by
    obtain ⟨b, h1, -⟩ := hK.2.2
    exact (va_AO.of (h1 _ lw_ao)).moved hK.2.1.alike
  subst hn
  have hcN : (nI N).toNatClampNeg = N := nI_clamp (by omega)
  refine W.anew C1.1 C1.2.1 C1.2.2.2.2.1 (hts _ hcl) (va_AO.use hover) rfl dd rfl (nI_pos (by omega)) (by rw [hcN]; omega) hf.1 (by rw [hcN]; exact hf.2) fun cA kA comp f1 f2 f3 f4 => ?_
  rw [hcN]
  have hcA : cA = cy 2 := by
    obtain ⟨-, -, -, -, -, -, h4⟩ := hK.1.2 2 _ rfl
    exact Option.some.inj (f1.symm.trans h4)
  subst hcA
  generalize hH1 : H.push ({ cls := cy 2, slots := Array.replicate N .null, vm := .none } : Cell) = H1
  have z1 : H1.size = H.size + 1 := by rw [← hH1, Array.size_push]
  have e1 : H1[H.size]? = some (arrV (cy 2) N (fun _ => .null)) := by rw [← hH1, Array.getElem?_push_size, ← arrV_new]
  have o1 : ∀ q : Nat, q < H.size → H1[q]? = H[q]? := fun q hq => by rw [← hH1, Array.getElem?_push, if_neg (Nat.ne_of_lt hq)]
  have hat : va_at D vwCl (H.size, .inl (cy 2, zq N (fun _ => none))) H1 := by
    show H1[H.size]? = some (vp_cell _ _)
    rw [e1, vp_cell_q]; rfl
  have k9 := kont (zN ad kk ii H.size) (fun k i h => zN_n _ _ h) C1 H1 locs la (hR.new hw hat (by omega) o1) (hS.new (C1.2.2.2.2.2.2.2.2 _ hA.1)) ⟨Nat.le_trans hA.1 (by omega), fun x h1 h2 => (o1 x (Nat.lt_of_lt_of_le h1 hA.1)).trans (hA.2.1 x h1 h2), hA.2.2⟩ hl
  rw [zN_s] at k9
  exact k9
theorem v_aast {kk ii kv iv n ci N : Nat} {f : Nat → Option Nat} {i : Int32} {fs : List Value} {C : String} {T : u_T} (hB : zB X l D cy s0 d mc ms nm Post) (hw : w kk ii = some (.inl (cy 2, zq n f))) (hv : w kv iv = some (.inr (ci, fs))) (hc : vwCl[ci]? = some (C, T, N)) (hca : Cond.castable C "java/lang/Object" ∈ lw_tbl) (hin : vp_in i n) (dd : decode cc pc = .ok (.aastore, 1))
    (kont : V X own cc nL ret n1 n2 ad (zU w kk ii (some (.inl (cy 2, zq n (va_up f i.toNatClampNeg (some (ad kv iv))))))) (pc + 1) ls st) : V X own cc nL ret n1 n2 ad w pc ls (.ref (ad kv iv) :: .int i :: .ref (ad kk ii) :: st) := by
  obtain ⟨p, l, e, R, s, m, args, below, meth, c, Q, A, D, cy, s0⟩ := X
  obtain ⟨rfl, rfl, rfl, rfl, rfl, h5, rfl⟩ := hB
  intro C1 H locs la hR hS hA hl
  have hnn : w kk ii ≠ none := by rw [hw]; exact fun z => by cases z
  have hK : zK D cy s0 s := C1.2.2.2.2.2.2.2.1
  have hlt : i.toNatClampNeg < n := Nat.not_le.mp fun q => hin (Or.inr q)
  have h0 : ¬ i < 0 := fun q => hin (Or.inl q)
  obtain ⟨cellV, g1, g3, g2⟩ := va_recv hK.1 (hR.P hv) (ci := ci) (q0 := 0) hc rfl
  obtain ⟨kA, comp, k1, k2, k3, -⟩ := (hK.1.2 2 _ rfl).2
  obtain ⟨kE, hkE, -⟩ := Vm.findClass_spec k3
  obtain ⟨kC, hkC, -⟩ := Vm.findClass_spec g2
  have hasg := vb_asgC (va_Nw.warmC hK.2.1 (zG_w hK.2.2 hca rfl)) _ _ k3 g2
  refine W.aast C1.1 C1.2.1 (hR.1 kk ii _ hw) (fun q h => by cases h) (fun h => by cases h) k1 k2 rfl hkE ⟨h0, by show _ < (arrV _ _ _).slots.size; rw [arrV_size]; exact hlt⟩ g1 (fun q h => by rw [h] at g3; cases g3) hkC hasg rfl rfl dd fun H1 e z oq => ?_
  refine kont C1 H1 _ la (hR.put hw ?_ z oq) (hS.put hw) (hA.put z oq (hS _ _ hnn)) hl
  show H1[ad kk ii]? = some (vp_cell _ _)
  rw [e]
  rw [vp_cell_q, vp_cell_q, arrV_store]
  congr 2
  funext q
  by_cases hq : q = i.toNatClampNeg
  · subst hq
    simp [updV, va_up, va_rf]
  · simp [updV, va_up, hq]
theorem v_ldcM {index mi : Nat} (hB : zB X l D cy s0 d mc ms nm Post) (hM : zMi s0 mi) (hlink : Cond.classLink own index "[Ljava/lang/Object;" ∈ gt) (dd : decode cc pc = .ok (.ldc index, 2)) (kont : V X own cc nL ret n1 n2 ad w (pc + 2) ls (.ref mi :: st)) : V X own cc nL ret n1 n2 ad w pc ls st := by
  obtain ⟨p, l, e, R, s, m, args, below, meth, c, Q, A, D, cy, s0⟩ := X
  obtain ⟨rfl, rfl, rfl, rfl, rfl, h5, rfl⟩ := hB
  intro C1 H locs la hR hS hA hl
  have hK : zK D cy s0 s := C1.2.2.2.2.2.2.2.1
  exact va_ldcM C1.1 C1.2.1 C1.2.2.2.2.1 (C1.2.2.2.2.2.1 _ hlink) (hM.moved hK.2.1.alike) dd (kont C1 H locs la hR hS hA hl)
theorem lw_dc : Cond.declares ⟨"java/lang/Object", "getClass", "()Ljava/lang/Class;"⟩ ∈ lw_tbl := lw_m (i := 1164) (by decide +kernel)
theorem gc_s : Cond.selects "[Ljava/lang/Object;" ⟨"java/lang/Object", "getClass", "()Ljava/lang/Class;"⟩ ⟨"java/lang/Object", "getClass", "()Ljava/lang/Class;"⟩ ∈ gt := gt_of 1163 (by decide +kernel) (by decide +kernel)
theorem gc_n : Cond.native ⟨"java/lang/Object", "getClass", "()Ljava/lang/Class;"⟩ ∈ gt := gt_of 306 (by decide +kernel) (by decide +kernel)
theorem v_getC {kk ii n idx mi : Nat} {f : Nat → Option Nat} (hB : zB X l D cy s0 d mc ms nm Post) (hM : zMi s0 mi) (hlink : Cond.methodLink own idx ⟨"java/lang/Object", "getClass", "()Ljava/lang/Class;"⟩ ∈ gt) (hinst : Cond.instanceMethod ⟨"java/lang/Object", "getClass", "()Ljava/lang/Class;"⟩ ∈ gt) (hw : w kk ii = some (.inl (cy 2, zq n f))) (hd : 1 ≤ d) (hst : (st.map fun v => v.category).sum ≤ 8) (dd : decode cc pc = .ok (.invokevirtual idx, 3)) (kont : V X own cc nL ret n1 n2 ad w (pc + 3) ls (.ref mi :: st)) : V X own cc nL ret n1 n2 ad w pc ls (.ref (ad kk ii) :: st) := by
  obtain ⟨p, l, e, R, s, m, args, below, meth, c, Q, A, D, cy, s0⟩ := X
  obtain ⟨rfl, rfl, rfl, rfl, rfl, h5, rfl⟩ := hB
  intro C1 H locs la hR hS hA hl
  have hts := C1.2.2.2.2.2.1
  have hK : zK D cy s0 s := C1.2.2.2.2.2.2.2.1
  have hdc : va_Dc s := by
    obtain ⟨b, h1, -⟩ := hK.2.2
    exact (va_Dc.of (h1 _ lw_dc)).moved hK.2.1.alike
  obtain ⟨-, -, -, -, -, -, hnm⟩ := hK.1.2 2 _ rfl
  exact va_getC C1.1 C1.2.1 (by rw [C1.2.2.2.1]; exact (zL_size hl).symm) C1.2.2.2.2.1 (hts _ hlink) hdc.use (hts _ gc_s) (hts _ hinst) (hts _ gc_n) (hM.moved hK.2.1.alike) ⟨vp_cell (cy 2) (zq n f), hR.1 kk ii _ hw, rfl, hnm⟩ hd (by show _ ≤ 40 * d; omega) dd (kont C1 H locs la hR hS hA hl)
theorem v_cpyq {k0 i0 k1 i1 kv ci N0 N1 N idx : Nat} {f g : Nat → Option Nat} {n : Nat} {C : String} {T : u_T} (hB : zB X l D cy s0 d mc ms nm Post) (hlink : Cond.methodLink own idx arraycopyName ∈ gt) (hw0 : w k0 i0 = some (.inl (cy 2, zq N0 f))) (hw1 : w k1 i1 = some (.inl (cy 2, zq N1 g))) (h1 : n ≤ N0) (h2 : n ≤ N1) (hN0 : N0 < 2 ^ 30) (hN1 : N1 < 2 ^ 30) (hc : vwCl[ci]? = some (C, T, N)) (hca : Cond.castable C "java/lang/Object" ∈ lw_tbl) (hel : ∀ i, i < n → ∃ (iv : Nat) (fs : List Value), f i = some (ad kv iv) ∧ w kv iv = some (.inr (ci, fs))) (hd : 1 ≤ d) (hst : (st.map fun v => v.category).sum ≤ 8) (dd : decode cc pc = .ok (.invokestatic idx, 3))
    (kont : V X own cc nL ret n1 n2 ad (zU w k1 i1 (some (.inl (cy 2, zq N1 (va_cpy f g 0 0 n))))) (pc + 3) ls st) : V X own cc nL ret n1 n2 ad w pc ls (.int (nI n) :: .int 0 :: .ref (ad k1 i1) :: .int 0 :: .ref (ad k0 i0) :: st) := by
  obtain ⟨p, l, e, R, s, m, args, below, meth, c, Q, A, D, cy, s0⟩ := X
  obtain ⟨rfl, rfl, rfl, rfl, rfl, h5, rfl⟩ := hB
  intro C1 H locs la hR hS hA hl
  have hts := C1.2.2.2.2.2.1
  have hK : zK D cy s0 s := C1.2.2.2.2.2.2.2.1
  have hKK : va_K D vwCl (zT cy) s := hK.1
  have hnn : w k1 i1 ≠ none := by rw [hw1]; exact fun z => by cases z
  have hc0 : H[ad k0 i0]? = some (vp_cell (cy 2) (zq N0 f)) := hR.1 k0 i0 _ hw0
  have hc1 : H[ad k1 i1]? = some (vp_cell (cy 2) (zq N1 g)) := hR.1 k1 i1 _ hw1
  obtain ⟨-, kk0, hk0, cm0, hkk0⟩ := (hKK.2 2 _ rfl).1 N0 (fun j => va_rf (f j))
  obtain ⟨-, kk1, hk1, cm1, hkk1⟩ := (hKK.2 2 _ rfl).1 N1 (fun j => va_rf (g j))
  have z0 : (0 : Int32).toInt = 0 := by decide
  have c0 : (0 : Int32).toNatClampNeg = 0 := by decide
  have en : (nI n).toInt = (n : Int) := nI_toInt (by omega)
  have cn : (nI n).toNatClampNeg = n := nI_clamp (by omega)
  intro T hT X1
  obtain ⟨vm', X', step⟩ := X1.arraycopy C1.1 C1.2.2.2.2.1 (hts _ hlink) (hts _ ac_n) (hts _ ac_s) (hts _ ac_i) (src := ad k0 i0) (dst := ad k1 i1) (cs := vp_cell (cy 2) (zq N0 f)) (cd := vp_cell (cy 2) (zq N1 g)) (srcPos := 0) (destPos := 0) (n := nI n) (by rw [hT]; exact hc0) (by rw [hT]; exact hc1)
    (fun _ h => by cases h) (fun _ h => by cases h) (fun h => by cases h) (fun h => by cases h) hk0 hk1 hkk0 hkk1 rfl (by decide) (by decide) (nI_pos (by omega))
    (by rw [z0, en]; show ¬ _ > ((arrV (cy 2) N0 (fun j => va_rf (f j))).slots.size : Int); rw [arrV_size]; omega)
    (by rw [z0, en]; show ¬ _ > ((arrV (cy 2) N1 (fun j => va_rf (g j))).slots.size : Int); rw [arrV_size]; omega)
    (fun vm₁ hal i hi => by
      rw [cn] at hi
      have e9 : (vp_cell (cy 2) (zq N0 f)).slots.getD ((0 : Int32).toNatClampNeg + i) .null = va_rf (f i) := by
        show (arrV (cy 2) N0 (fun j => va_rf (f j))).slots.getD _ _ = _
        rw [c0, Nat.zero_add, Array.getD_eq_getD_getElem?, arrV_read _ _ (by omega)]
        rfl
      rw [e9]
      obtain ⟨iv, fs, hfi, hwi⟩ := hel i hi
      rw [hfi]
      obtain ⟨cellV, g1, g2, g3⟩ := va_recv hKK (hR.P hwi) (ci := ci) (q0 := 0) hc rfl
      obtain ⟨kA, comp, r1, r2, r3, -⟩ := (hKK.2 2 _ rfl).2
      cases hk1.symm.trans r1
      cases hkk1.symm.trans r2
      obtain ⟨kC, hkC, -⟩ := Vm.findClass_spec g3
      obtain ⟨kE, hkE, -⟩ := Vm.findClass_spec r3
      obtain ⟨kC', hkC', -⟩ := hal.2.2 _ _ hkC
      obtain ⟨kE', hkE', -⟩ := hal.2.2 _ _ hkE
      refine ⟨rfl, cellV, (show T.heap[ad kv iv]? = some cellV by rw [hT]; exact g1), (fun q h => by rw [h] at g2; cases g2), ⟨kC', hkC'⟩, ?_, ?_⟩
      · exact ⟨kE', hkE'⟩
      · show vm₁.assignable _ _ = true
        rw [hal.assignable]
        exact vb_asgC (va_Nw.warmC hK.2.1 (zG_w hK.2.2 hca rfl)) _ _ r3 g3)
    (g := F0 m pc la (.int (nI n) :: .int 0 :: .ref (ad k1 i1) :: .int 0 :: .ref (ad k0 i0) :: st)) rfl (by rw [C1.2.2.2.1]; exact zL_size hl) (rest := st) rfl (by rw [C1.2.1]; exact dd) hd (by
      show 2 * 0 + _ + _ ≤ 40 * d
      have : nativeFrameWords "java/lang/System" "arraycopy" 5 + 11 ≤ 32 := by decide
      omega)
  have e1 : copied (vp_cell (cy 2) (zq N0 f)) (vp_cell (cy 2) (zq N1 g)) 0 0 (nI n) = vp_cell (cy 2) (zq N1 (va_cpy f g 0 0 n)) := by
    rw [vp_cell_q, vp_cell_q, vp_cell_q]
    have h9 : copied (arrV (cy 2) N0 (fun j => va_rf (f j))) (arrV (cy 2) N1 (fun j => va_rf (g j))) 0 0 (nI n) = arrV (cy 2) N1 (fun j => va_rf (va_cpy f g (0 : Int32).toNatClampNeg (0 : Int32).toNatClampNeg (nI n).toNatClampNeg j)) := va_copied (fun z => va_rf z) (cy 2) (cy 2) f g (by rw [c0, cn]; omega)
    rw [c0, cn] at h9
    exact h9
  rw [e1] at X' step
  have hlt : ad k1 i1 < H.size := (Array.getElem?_eq_some_iff.mp hc1).1
  have hheap : ((T.setVm vm').setCell (ad k1 i1) (vp_cell (cy 2) (zq N1 (va_cpy f g 0 0 n)))).heap = H.setIfInBounds (ad k1 i1) (vp_cell (cy 2) (zq N1 (va_cpy f g 0 0 n))) := by rw [← hT]; rfl
  have oq : ∀ q : Nat, q ≠ ad k1 i1 → (H.setIfInBounds (ad k1 i1) (vp_cell (cy 2) (zq N1 (va_cpy f g 0 0 n))))[q]? = H[q]? := fun q hq => by simp [Array.getElem?_setIfInBounds, Ne.symm hq]
  have hz : (H.setIfInBounds (ad k1 i1) (vp_cell (cy 2) (zq N1 (va_cpy f g 0 0 n)))).size = H.size := by simp
  have hat : va_at D vwCl (ad k1 i1, .inl (cy 2, zq N1 (va_cpy f g 0 0 n))) (H.setIfInBounds (ad k1 i1) (vp_cell (cy 2) (zq N1 (va_cpy f g 0 0 n)))) := by
    show (H.setIfInBounds (ad k1 i1) _)[ad k1 i1]? = some _
    simp [Array.getElem?_setIfInBounds, hlt]
  obtain ⟨t, a1, b1⟩ := kont C1 _ _ la (hR.put hw1 hat hz oq) (hS.put hw1) ⟨by rw [hz]; exact hA.1, fun q g1 g2 => by
      rw [oq q (fun z => g2 (by rw [z]; exact hS _ _ hnn))]
      exact hA.2.1 q g1 g2, fun q hq => by
      rcases List.mem_append.mp hq with h | h
      · exact hA.2.2 q h
      · obtain ⟨z, -, hz⟩ := List.mem_map.mp h
        rw [← hz]
        exact hS _ _ hnn⟩ hl _ hheap X'
  exact ⟨t, step t a1, b1⟩
end
section
variable {X : zX} {own : String} {cc : ByteArray} {nL : Nat} {ret : Option FieldType} {n1 n2 : Nat} {ad : zA} {w : zW} {pc : Nat} {ls : List (Option Value)} {rest : List Value} {l : Launch} {D : va_G} {cy : Nat → ClassId} {s0 : State} {d mc ms : Nat} {nm : String} {Post : Option Value → zA → zW → Prop}
variable {y : MethodName} {bytes : ByteArray} {maxL : Nat} {ret' : Option FieldType} {d' mc' ms' n idx : Nat} {C host : String} {As : List Value} {P : Option Value → zA → zW → Prop}
theorem v_callSN (hB : zB X l D cy s0 d mc ms nm Post) (hlink : Cond.methodLinkNest own idx y host ∈ lw_tbl) (hk : Cond.static y ∈ gt ∧ Cond.initialized y.cls ∈ gt ∧ Cond.code y bytes maxL ret' ∈ gt) (hk2 : y.cls ≠ "java/lang/invoke/MethodHandle" ∧ y.cls ≠ "java/lang/invoke/VarHandle" ∧ (parseMethodDescriptor y.desc).map (fun d => d.parameters.length) = some n) (hM : zM l D cy s0 y bytes maxL ret' d' mc' ms' As ad w P) (hn : As.length = n) (hd : d' + 1 ≤ d ∧ 8 + (maxL + 11) + 40 * d' ≤ 40 * d) (hf : n1 + mc' ≤ mc ∧ n2 + ms' ≤ ms) (hst : (rest.map fun v => v.category).sum ≤ 8) (dd : decode cc pc = .ok (.invokestatic idx, 3))
    (kont : ∀ r ad2 w2, P r ad2 w2 → V X own cc nL ret (n1 + mc') (n2 + ms') ad2 w2 (pc + 3) ls (r.toList ++ rest)) : V X own cc nL ret n1 n2 ad w pc ls (As.reverse ++ rest) := by
  obtain ⟨p, l, e, R, s, m, args, below, meth, c, Q, A, D, cy, s0⟩ := X
  obtain ⟨rfl, rfl, rfl, rfl, rfl, h5, rfl⟩ := hB
  intro C1 H locs la hR hS hA hl
  have hF : ∀ q, zF ad w H.size q → A q := by
    intro q hq
    rcases hq with ⟨k9, i9, h9, rfl⟩ | hq
    · exact hS k9 i9 h9
    · exact C1.2.2.2.2.2.2.2.2 q (Nat.le_trans hA.1 hq)
  have hts := C1.2.2.2.2.2.1
  have hK : zK D cy s0 s := C1.2.2.2.2.2.2.2.1
  exact z_go (va_runSN (As := As) (rest := rest) ⟨C1.1, C1.2.1, C1.2.2.2.1, C1.2.2.2.2.1, hts⟩ (hM H.size) ⟨va_cnB n hts (gt_good (gw_in hk.2.2)) rfl rfl rfl (va_Nw.warmM hK.2.1 (zG_w hK.2.2 hlink rfl)) (hts _ hk.2.1) hk2 hd, hts _ hk.1, trivial⟩ ⟨zM_blind _ _ _ _ _ _ _, fun U hU hW => ⟨rfl, by rw [hU], by rw [hU]; exact hR, zK.moved hW C1.2.2.2.2.2.2.2.1⟩⟩ rfl hn (zL_size hl) rfl (lv_room hst) dd hf) hA hF (fun r ad2 w2 H1 locs1 hp hR2 hS2 _ _ hA2 => kont r ad2 w2 hp C1 H1 locs1 la hR2 (fun k9 i9 h9 => hF _ (hS2 k9 i9 h9)) hA2 hl)
theorem v_callIN {b : Nat} (hB : zB X l D cy s0 d mc ms nm Post) (hlink : Cond.methodLinkNest own idx y host ∈ lw_tbl) (hk : Cond.instanceMethod y ∈ gt ∧ Cond.initialized y.cls ∈ gt ∧ Cond.code y bytes maxL none ∈ gt) (hk1 : y.name = "<init>") (hk2 : y.cls ≠ "java/lang/invoke/MethodHandle" ∧ y.cls ≠ "java/lang/invoke/VarHandle" ∧ (parseMethodDescriptor y.desc).map (fun d => d.parameters.length) = some n) (hM : zM l D cy s0 y bytes maxL none d' mc' ms' (.ref b :: As) ad w P) (hn : As.length = n) (hd : d' + 1 ≤ d ∧ 8 + (maxL + 11) + 40 * d' ≤ 40 * d) (hf : n1 + mc' ≤ mc ∧ n2 + ms' ≤ ms) (hst : (rest.map fun v => v.category).sum ≤ 8) (dd : decode cc pc = .ok (.invokespecial idx, 3))
    (kont : ∀ r ad2 w2, P r ad2 w2 → V X own cc nL ret (n1 + mc') (n2 + ms') ad2 w2 (pc + 3) ls (r.toList ++ rest)) : V X own cc nL ret n1 n2 ad w pc ls (As.reverse ++ .ref b :: rest) := by
  obtain ⟨p, l, e, R, s, m, args, below, meth, c, Q, A, D, cy, s0⟩ := X
  obtain ⟨rfl, rfl, rfl, rfl, rfl, h5, rfl⟩ := hB
  intro C1 H locs la hR hS hA hl
  have hF : ∀ q, zF ad w H.size q → A q := by
    intro q hq
    rcases hq with ⟨k9, i9, h9, rfl⟩ | hq
    · exact hS k9 i9 h9
    · exact C1.2.2.2.2.2.2.2.2 q (Nat.le_trans hA.1 hq)
  have hts := C1.2.2.2.2.2.1
  have hK : zK D cy s0 s := C1.2.2.2.2.2.2.2.1
  exact z_go (va_runIN (As := As) (rest := rest) ⟨C1.1, C1.2.1, C1.2.2.2.1, C1.2.2.2.2.1, hts⟩ (hM H.size) ⟨va_cnB n hts (gt_good (gw_in hk.2.2)) rfl rfl rfl (va_Nw.warmM hK.2.1 (zG_w hK.2.2 hlink rfl)) (hts _ hk.2.1) hk2 hd, hk1, hts _ hk.1⟩ ⟨zM_blind _ _ _ _ _ _ _, fun U hU hW => ⟨rfl, by rw [hU], by rw [hU]; exact hR, zK.moved hW C1.2.2.2.2.2.2.2.1⟩⟩ rfl hn (zL_size hl) rfl (lv_room hst) dd hf) hA hF (fun r ad2 w2 H1 locs1 hp hR2 hS2 _ _ hA2 => kont r ad2 w2 hp C1 H1 locs1 la hR2 (fun k9 i9 h9 => hF _ (hS2 k9 i9 h9)) hA2 hl)
end
