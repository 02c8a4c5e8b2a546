/-! V: a machine state whose heap is a world by names (kind, index): ad says where a name lies, w what lies there. -/
abbrev zA : Type := Nat → Nat → Nat
abbrev zW : Type := Nat → Nat → Option va_E
def gt : List Cond := lw_tbl.filter goodWord
def gw (y : MethodName) (cc : ByteArray) (nL : Nat) (ret : Option FieldType) : List Cond := .code y cc nL ret :: gt
/-- what is known of the law's start -/
def zG (s0 : State) : Prop := ∃ b : Nat, (∀ w ∈ lw_tbl, w.before #[.ref b] s0 = true) ∧ (Jvm.Cond.and given_1 narrow_1).before #[.ref b] s0 = true
abbrev zT (cy : Nat → ClassId) : List (ClassId × FieldType) := [(cy 0, .int), (cy 1, .boolean), (cy 2, .object "java/lang/Object"), (cy 3, .long)]
def zK (D : va_G) (cy : Nat → ClassId) (s0 : State) (U : State) : Prop := va_K D vwCl (zT cy) U ∧ s0.WarmedH U.vm ∧ zG s0
def zR (D : va_G) (s0 : State) (ad : zA) (w : zW) (H : Heap) : Prop := (∀ (k i : Nat) (c : va_E), w k i = some c → va_at D vwCl (ad k i, c) H) ∧ (∀ k i k' i' : Nat, w k i ≠ none → w k' i' ≠ none → ad k i = ad k' i' → k = k' ∧ i = i') ∧ (s0.heap.size ≤ H.size ∧ ∀ q : Nat, q < s0.heap.size → H[q]? = s0.heap[q]?) ∧ ∀ k i : Nat, w k i ≠ none → s0.heap.size ≤ ad k i
def zF (ad : zA) (w : zW) (sz : Nat) : Nat → Prop := fun q => (∃ k i : Nat, w k i ≠ none ∧ ad k i = q) ∨ sz ≤ q
abbrev zX : Type := Program × Launch × Env × Room × State × MethodId × Array Value × List Frame × Method × Code × (State → Prop) × (Nat → Prop) × va_G × (Nat → ClassId) × State
def zC (X : zX) (own : String) (cc : ByteArray) (nL : Nat) (ret : Option FieldType) : Prop := match X with
  | (p, _, _, _, s, m, args, _, meth, c, _, A, D, cy, s0) => p.tables.exec = Jvm.exec ∧ c.code = cc ∧ meth.sig.returnType = ret ∧ c.maxLocals = nL ∧ s.vm.findClass own = some m.cls ∧ (∀ w ∈ gt, w.before args s = true) ∧ meth.locks = false ∧ zK D cy s0 s ∧ (∀ q, s.heap.size ≤ q → A q)
/-- the locals that are known -/
def zP (ls : List (Option Value)) : List (Nat × Value) := (List.range ls.length).filterMap (fun i => (ls[i]?.join).map (fun v => (i, v)))
def zL (la : Array Slot) (nL : Nat) (ls : List (Option Value)) : Prop := lv_has la nL (zP ls) ∧ ∀ v, some v ∈ ls → v.category = 1
def zS (w : zW) (ad : zA) (A : Nat → Prop) : Prop := ∀ k i : Nat, w k i ≠ none → A (ad k i)
def V (X : zX) (own : String) (cc : ByteArray) (nL : Nat) (ret : Option FieldType) (n1 n2 : Nat) (ad : zA) (w : zW) (pc : Nat) (ls : List (Option Value)) (st : List Value) : Prop := match X with
  | (p, l, e, R, s, m, args, below, meth, c, Q, A, D, cy, s0) => zC (p, l, e, R, s, m, args, below, meth, c, Q, A, D, cy, s0) own cc nL ret → ∀ (H : Heap) (locs : List Loc) (la : Array Slot), zR D s0 ad w H → zS w ad A → va_S A s.heap H locs → zL la nL ls → W p l e R s m args below meth c H locs n1 n2 Q (F0 m pc la st)
theorem zP_mem {ls : List (Option Value)} {i : Nat} {v : Value} : (i, v) ∈ zP ls ↔ ls[i]? = some (some v) := by
  unfold zP
  rw [List.mem_filterMap]
  constructor
  · rintro ⟨j, -, h⟩
    rw [Option.map_eq_some_iff] at h
    obtain ⟨u, h1, h2⟩ := h
    injection h2 with e1 e2
    subst e1
    subst e2
    cases hq : ls[j]? with
    | none => rw [hq] at h1; cases h1
    | some z => rw [hq] at h1; exact congrArg some h1
  · intro h
    refine ⟨i, List.mem_range.mpr (List.getElem?_eq_some_iff.mp h).1, ?_⟩
    rw [h]; rfl
theorem zL_at {la : Array Slot} {nL : Nat} {ls : List (Option Value)} (h : zL la nL ls) {i : Nat} {v : Value} (hi : ls[i]? = some (some v)) : la[i]? = some (.val v) := h.1.2.2 (i, v) (zP_mem.mpr hi)
theorem zL_size {la : Array Slot} {nL : Nat} {ls : List (Option Value)} (h : zL la nL ls) : la.size = nL := h.1.1
theorem zL_set {la : Array Slot} {nL : Nat} {ls : List (Option Value)} {i : Nat} {x : Value} (h : ∀ v, some v ∈ ls → v.category = 1) (hx : x.category = 1) (h2 : lv_has la nL ((i, x) :: (zP ls).filter (fun q => !(q.1 == i) && !(q.1 + 1 == i && q.2.category == 2)))) : zL la nL (ls.set i (some x)) := by
  refine ⟨⟨h2.1, h2.2.1, fun q hq => ?_⟩, fun v hv => ?_⟩
  · obtain ⟨j, v⟩ := q
    have hj := zP_mem.mp hq
    by_cases e : j = i
    · subst e
      have hl : j < ls.length := by have := (List.getElem?_eq_some_iff.mp hj).1; simpa using this
      rw [List.getElem?_set_self hl] at hj
      cases hj
      exact h2.2.2 _ List.mem_cons_self
    · rw [List.getElem?_set_ne (Ne.symm e)] at hj
      have hc : v.category = 1 := h v (List.mem_of_getElem? hj)
      refine h2.2.2 _ (List.mem_cons_of_mem _ (List.mem_filter.mpr ⟨zP_mem.mpr hj, ?_⟩))
      simp [e, hc]
  · rcases List.mem_or_eq_of_mem_set hv with h3 | h3
    · exact h v h3
    · cases h3; exact hx
section
variable {X : zX} {own : String} {cc : ByteArray} {nL : Nat} {ret : Option FieldType} {n1 n2 : Nat} {ad : zA} {w : zW} {pc : Nat} {ls : List (Option Value)} {st : List Value}
theorem v_iconst {n : Int} (d : decode cc pc = .ok (.iconst n, 1)) (k : V X own cc nL ret n1 n2 ad w (pc + 1) ls (.int (Int32.ofInt n) :: st)) : V X own cc nL ret n1 n2 ad w pc ls st := by
  obtain ⟨p, l, e, R, s, m, args, below, meth, c, Q, A, D, cy, s0⟩ := X
  intro C H locs la hR hS hA hl
  exact lv_iconst C.1 C.2.1 d rfl (k C H locs la hR hS hA hl)
theorem v_iconst_v {n : Int} {v : Int32} (d : decode cc pc = .ok (.iconst n, 1)) (hv : Int32.ofInt n = v) (k : V X own cc nL ret n1 n2 ad w (pc + 1) ls (.int v :: st)) : V X own cc nL ret n1 n2 ad w pc ls st := by
  obtain ⟨p, l, e, R, s, m, args, below, meth, c, Q, A, D, cy, s0⟩ := X
  intro C H locs la hR hS hA hl
  exact lv_iconst C.1 C.2.1 d hv (k C H locs la hR hS hA hl)
theorem v_bipush_v {n : Int} {v : Int32} (d : decode cc pc = .ok (.bipush n, 2)) (hv : (Int8.ofInt n).toInt32 = v) (k : V X own cc nL ret n1 n2 ad w (pc + 2) ls (.int v :: st)) : V X own cc nL ret n1 n2 ad w pc ls st := by
  obtain ⟨p, l, e, R, s, m, args, below, meth, c, Q, A, D, cy, s0⟩ := X
  intro C H locs la hR hS hA hl
  exact lv_bipush C.1 C.2.1 d hv (k C H locs la hR hS hA hl)
theorem v_sipush_v {n : Int} {v : Int32} (d : decode cc pc = .ok (.sipush n, 3)) (hv : (Int16.ofInt n).toInt32 = v) (k : V X own cc nL ret n1 n2 ad w (pc + 3) ls (.int v :: st)) : V X own cc nL ret n1 n2 ad w pc ls st := by
  obtain ⟨p, l, e, R, s, m, args, below, meth, c, Q, A, D, cy, s0⟩ := X
  intro C H locs la hR hS hA hl
  exact lv_sipush C.1 C.2.1 d hv (k C H locs la hR hS hA hl)
theorem v_ldc {index : Nat} {v : Int32} (hc : Cond.constant own index v ∈ gt) (d : decode cc pc = .ok (.ldc index, 2)) (k : V X own cc nL ret n1 n2 ad w (pc + 2) ls (.int v :: st)) : V X own cc nL ret n1 n2 ad w pc ls st := by
  obtain ⟨p, l, e, R, s, m, args, below, meth, c, Q, A, D, cy, s0⟩ := X
  intro C H locs la hR hS hA hl
  exact lv_ldc C.1 C.2.1 C.2.2.2.2.1 (C.2.2.2.2.2.1 _ hc) d (k C H locs la hR hS hA hl)
theorem v_iload_n {j : Fin 4} {x : Int32} (d : decode cc pc = .ok (.iload_n j, 1)) (h : ls[(j : Nat)]? = some (some (.int x))) (k : V X own cc nL ret n1 n2 ad w (pc + 1) ls (.int x :: st)) : V X own cc nL ret n1 n2 ad w pc ls st := by
  obtain ⟨p, l, e, R, s, m, args, below, meth, c, Q, A, D, cy, s0⟩ := X
  intro C H locs la hR hS hA hl
  exact lv_iload_n C.1 C.2.1 d rfl (zL_at hl h) (k C H locs la hR hS hA hl)
theorem v_iload {i : Nat} {x : Int32} (d : decode cc pc = .ok (.iload i, 2)) (h : ls[i]? = some (some (.int x))) (k : V X own cc nL ret n1 n2 ad w (pc + 2) ls (.int x :: st)) : V X own cc nL ret n1 n2 ad w pc ls st := by
  obtain ⟨p, l, e, R, s, m, args, below, meth, c, Q, A, D, cy, s0⟩ := X
  intro C H locs la hR hS hA hl
  exact lv_iload C.1 C.2.1 d (zL_at hl h) (k C H locs la hR hS hA hl)
theorem v_aload_n {j : Fin 4} {x : Nat} (d : decode cc pc = .ok (.aload_n j, 1)) (h : ls[(j : Nat)]? = some (some (.ref x))) (k : V X own cc nL ret n1 n2 ad w (pc + 1) ls (.ref x :: st)) : V X own cc nL ret n1 n2 ad w pc ls st := by
  obtain ⟨p, l, e, R, s, m, args, below, meth, c, Q, A, D, cy, s0⟩ := X
  intro C H locs la hR hS hA hl
  exact lv_aload_n C.1 C.2.1 d rfl (zL_at hl h) (k C H locs la hR hS hA hl)
theorem v_aload {i : Nat} {x : Nat} (d : decode cc pc = .ok (.aload i, 2)) (h : ls[i]? = some (some (.ref x))) (k : V X own cc nL ret n1 n2 ad w (pc + 2) ls (.ref x :: st)) : V X own cc nL ret n1 n2 ad w pc ls st := by
  obtain ⟨p, l, e, R, s, m, args, below, meth, c, Q, A, D, cy, s0⟩ := X
  intro C H locs la hR hS hA hl
  exact lv_aload C.1 C.2.1 d (zL_at hl h) (k C H locs la hR hS hA hl)
theorem v_istore_n {j : Fin 4} {x : Int32} (d : decode cc pc = .ok (.istore_n j, 1)) (hn : (j : Nat) < nL) (k : V X own cc nL ret n1 n2 ad w (pc + 1) (ls.set (j : Nat) (some (.int x))) st) : V X own cc nL ret n1 n2 ad w pc ls (.int x :: st) := by
  obtain ⟨p, l, e, R, s, m, args, below, meth, c, Q, A, D, cy, s0⟩ := X
  intro C H locs la hR hS hA hl
  exact lv_istore_n C.1 C.2.1 d rfl hl.1 hn rfl (fun la2 h2 => k C H locs la2 hR hS hA (zL_set hl.2 rfl h2))
theorem v_istore {i : Nat} {x : Int32} (d : decode cc pc = .ok (.istore i, 2)) (hn : i < nL) (k : V X own cc nL ret n1 n2 ad w (pc + 2) (ls.set i (some (.int x))) st) : V X own cc nL ret n1 n2 ad w pc ls (.int x :: st) := by
  obtain ⟨p, l, e, R, s, m, args, below, meth, c, Q, A, D, cy, s0⟩ := X
  intro C H locs la hR hS hA hl
  exact lv_istore C.1 C.2.1 d hl.1 hn rfl (fun la2 h2 => k C H locs la2 hR hS hA (zL_set hl.2 rfl h2))
theorem v_astore_n {j : Fin 4} {x : Nat} (d : decode cc pc = .ok (.astore_n j, 1)) (hn : (j : Nat) < nL) (k : V X own cc nL ret n1 n2 ad w (pc + 1) (ls.set (j : Nat) (some (.ref x))) st) : V X own cc nL ret n1 n2 ad w pc ls (.ref x :: st) := by
  obtain ⟨p, l, e, R, s, m, args, below, meth, c, Q, A, D, cy, s0⟩ := X
  intro C H locs la hR hS hA hl
  exact lv_astore_n C.1 C.2.1 d rfl hl.1 hn rfl (fun la2 h2 => k C H locs la2 hR hS hA (zL_set hl.2 rfl h2))
theorem v_astore {i : Nat} {x : Nat} (d : decode cc pc = .ok (.astore i, 2)) (hn : i < nL) (k : V X own cc nL ret n1 n2 ad w (pc + 2) (ls.set i (some (.ref x))) st) : V X own cc nL ret n1 n2 ad w pc ls (.ref x :: st) := by
  obtain ⟨p, l, e, R, s, m, args, below, meth, c, Q, A, D, cy, s0⟩ := X
  intro C H locs la hR hS hA hl
  exact lv_astore C.1 C.2.1 d hl.1 hn rfl (fun la2 h2 => k C H locs la2 hR hS hA (zL_set hl.2 rfl h2))
theorem zP_idx {ls : List (Option Value)} {i : Nat} {v : Value} (h : ls[i]? = some (some v)) : ∃ k : Nat, (zP ls)[k]? = some (i, v) := List.getElem?_of_mem (zP_mem.mpr h)
theorem v_iinc {i : Nat} {n : Int} {x v : Int32} (d : decode cc pc = .ok (.iinc i n, 3)) (h : ls[i]? = some (some (.int x))) (hv : x + Int32.ofInt n = v) (hn : i < nL) (k : V X own cc nL ret n1 n2 ad w (pc + 3) (ls.set i (some (.int v))) st) : V X own cc nL ret n1 n2 ad w pc ls st := by
  obtain ⟨p, l, e, R, s, m, args, below, meth, c, Q, A, D, cy, s0⟩ := X
  intro C H locs la hR hS hA hl
  obtain ⟨k9, h9⟩ := zP_idx h
  exact lv_iinc C.1 C.2.1 d hl.1 h9 hv hn rfl (fun la2 h2 => k C H locs la2 hR hS hA (zL_set hl.2 rfl h2))
theorem v_istore_n0 {z : Option Value} {r : List (Option Value)} {x : Int32} (d : decode cc pc = .ok (.istore_n 0, 1)) (hn : 0 < nL) (k : V X own cc nL ret n1 n2 ad w (pc + 1) (some (.int x) :: r) st) : V X own cc nL ret n1 n2 ad w pc (z :: r) (.int x :: st) := v_istore_n d hn k
theorem v_istore0 {z : Option Value} {r : List (Option Value)} {x : Int32} (d : decode cc pc = .ok (.istore 0, 2)) (hn : 0 < nL) (k : V X own cc nL ret n1 n2 ad w (pc + 2) (some (.int x) :: r) st) : V X own cc nL ret n1 n2 ad w pc (z :: r) (.int x :: st) := v_istore d hn k
theorem v_astore_n0 {z : Option Value} {r : List (Option Value)} {x : Nat} (d : decode cc pc = .ok (.astore_n 0, 1)) (hn : 0 < nL) (k : V X own cc nL ret n1 n2 ad w (pc + 1) (some (.ref x) :: r) st) : V X own cc nL ret n1 n2 ad w pc (z :: r) (.ref x :: st) := v_astore_n d hn k
theorem v_astore0 {z : Option Value} {r : List (Option Value)} {x : Nat} (d : decode cc pc = .ok (.astore 0, 2)) (hn : 0 < nL) (k : V X own cc nL ret n1 n2 ad w (pc + 2) (some (.ref x) :: r) st) : V X own cc nL ret n1 n2 ad w pc (z :: r) (.ref x :: st) := v_astore d hn k
theorem v_iinc0 {r : List (Option Value)} {n : Int} {x v : Int32} (d : decode cc pc = .ok (.iinc 0 n, 3)) (hv : Int32.ofInt n = v) (hn : 0 < nL) (k : V X own cc nL ret n1 n2 ad w (pc + 3) (some (.int (x + v)) :: r) st) : V X own cc nL ret n1 n2 ad w pc (some (.int x) :: r) st := v_iinc d rfl (by rw [hv]) hn k
theorem v_istore_n1 {a0 : Option Value} {z : Option Value} {r : List (Option Value)} {x : Int32} (d : decode cc pc = .ok (.istore_n 1, 1)) (hn : 1 < nL) (k : V X own cc nL ret n1 n2 ad w (pc + 1) (a0 :: some (.int x) :: r) st) : V X own cc nL ret n1 n2 ad w pc (a0 :: z :: r) (.int x :: st) := v_istore_n d hn k
theorem v_istore1 {a0 : Option Value} {z : Option Value} {r : List (Option Value)} {x : Int32} (d : decode cc pc = .ok (.istore 1, 2)) (hn : 1 < nL) (k : V X own cc nL ret n1 n2 ad w (pc + 2) (a0 :: some (.int x) :: r) st) : V X own cc nL ret n1 n2 ad w pc (a0 :: z :: r) (.int x :: st) := v_istore d hn k
theorem v_astore_n1 {a0 : Option Value} {z : Option Value} {r : List (Option Value)} {x : Nat} (d : decode cc pc = .ok (.astore_n 1, 1)) (hn : 1 < nL) (k : V X own cc nL ret n1 n2 ad w (pc + 1) (a0 :: some (.ref x) :: r) st) : V X own cc nL ret n1 n2 ad w pc (a0 :: z :: r) (.ref x :: st) := v_astore_n d hn k
theorem v_astore1 {a0 : Option Value} {z : Option Value} {r : List (Option Value)} {x : Nat} (d : decode cc pc = .ok (.astore 1, 2)) (hn : 1 < nL) (k : V X own cc nL ret n1 n2 ad w (pc + 2) (a0 :: some (.ref x) :: r) st) : V X own cc nL ret n1 n2 ad w pc (a0 :: z :: r) (.ref x :: st) := v_astore d hn k
theorem v_iinc1 {a0 : Option Value} {r : List (Option Value)} {n : Int} {x v : Int32} (d : decode cc pc = .ok (.iinc 1 n, 3)) (hv : Int32.ofInt n = v) (hn : 1 < nL) (k : V X own cc nL ret n1 n2 ad w (pc + 3) (a0 :: some (.int (x + v)) :: r) st) : V X own cc nL ret n1 n2 ad w pc (a0 :: some (.int x) :: r) st := v_iinc d rfl (by rw [hv]) hn k
theorem v_istore_n2 {a0 a1 : Option Value} {z : Option Value} {r : List (Option Value)} {x : Int32} (d : decode cc pc = .ok (.istore_n 2, 1)) (hn : 2 < nL) (k : V X own cc nL ret n1 n2 ad w (pc + 1) (a0 :: a1 :: some (.int x) :: r) st) : V X own cc nL ret n1 n2 ad w pc (a0 :: a1 :: z :: r) (.int x :: st) := v_istore_n d hn k
theorem v_istore2 {a0 a1 : Option Value} {z : Option Value} {r : List (Option Value)} {x : Int32} (d : decode cc pc = .ok (.istore 2, 2)) (hn : 2 < nL) (k : V X own cc nL ret n1 n2 ad w (pc + 2) (a0 :: a1 :: some (.int x) :: r) st) : V X own cc nL ret n1 n2 ad w pc (a0 :: a1 :: z :: r) (.int x :: st) := v_istore d hn k
theorem v_astore_n2 {a0 a1 : Option Value} {z : Option Value} {r : List (Option Value)} {x : Nat} (d : decode cc pc = .ok (.astore_n 2, 1)) (hn : 2 < nL) (k : V X own cc nL ret n1 n2 ad w (pc + 1) (a0 :: a1 :: some (.ref x) :: r) st) : V X own cc nL ret n1 n2 ad w pc (a0 :: a1 :: z :: r) (.ref x :: st) := v_astore_n d hn k
theorem v_astore2 {a0 a1 : Option Value} {z : Option Value} {r : List (Option Value)} {x : Nat} (d : decode cc pc = .ok (.astore 2, 2)) (hn : 2 < nL) (k : V X own cc nL ret n1 n2 ad w (pc + 2) (a0 :: a1 :: some (.ref x) :: r) st) : V X own cc nL ret n1 n2 ad w pc (a0 :: a1 :: z :: r) (.ref x :: st) := v_astore d hn k
theorem v_iinc2 {a0 a1 : Option Value} {r : List (Option Value)} {n : Int} {x v : Int32} (d : decode cc pc = .ok (.iinc 2 n, 3)) (hv : Int32.ofInt n = v) (hn : 2 < nL) (k : V X own cc nL ret n1 n2 ad w (pc + 3) (a0 :: a1 :: some (.int (x + v)) :: r) st) : V X own cc nL ret n1 n2 ad w pc (a0 :: a1 :: some (.int x) :: r) st := v_iinc d rfl (by rw [hv]) hn k
theorem v_istore_n3 {a0 a1 a2 : Option Value} {z : Option Value} {r : List (Option Value)} {x : Int32} (d : decode cc pc = .ok (.istore_n 3, 1)) (hn : 3 < nL) (k : V X own cc nL ret n1 n2 ad w (pc + 1) (a0 :: a1 :: a2 :: some (.int x) :: r) st) : V X own cc nL ret n1 n2 ad w pc (a0 :: a1 :: a2 :: z :: r) (.int x :: st) := v_istore_n d hn k
theorem v_istore3 {a0 a1 a2 : Option Value} {z : Option Value} {r : List (Option Value)} {x : Int32} (d : decode cc pc = .ok (.istore 3, 2)) (hn : 3 < nL) (k : V X own cc nL ret n1 n2 ad w (pc + 2) (a0 :: a1 :: a2 :: some (.int x) :: r) st) : V X own cc nL ret n1 n2 ad w pc (a0 :: a1 :: a2 :: z :: r) (.int x :: st) := v_istore d hn k
theorem v_astore_n3 {a0 a1 a2 : Option Value} {z : Option Value} {r : List (Option Value)} {x : Nat} (d : decode cc pc = .ok (.astore_n 3, 1)) (hn : 3 < nL) (k : V X own cc nL ret n1 n2 ad w (pc + 1) (a0 :: a1 :: a2 :: some (.ref x) :: r) st) : V X own cc nL ret n1 n2 ad w pc (a0 :: a1 :: a2 :: z :: r) (.ref x :: st) := v_astore_n d hn k
theorem v_astore3 {a0 a1 a2 : Option Value} {z : Option Value} {r : List (Option Value)} {x : Nat} (d : decode cc pc = .ok (.astore 3, 2)) (hn : 3 < nL) (k : V X own cc nL ret n1 n2 ad w (pc + 2) (a0 :: a1 :: a2 :: some (.ref x) :: r) st) : V X own cc nL ret n1 n2 ad w pc (a0 :: a1 :: a2 :: z :: r) (.ref x :: st) := v_astore d hn k
theorem v_iinc3 {a0 a1 a2 : Option Value} {r : List (Option Value)} {n : Int} {x v : Int32} (d : decode cc pc = .ok (.iinc 3 n, 3)) (hv : Int32.ofInt n = v) (hn : 3 < nL) (k : V X own cc nL ret n1 n2 ad w (pc + 3) (a0 :: a1 :: a2 :: some (.int (x + v)) :: r) st) : V X own cc nL ret n1 n2 ad w pc (a0 :: a1 :: a2 :: some (.int x) :: r) st := v_iinc d rfl (by rw [hv]) hn k
theorem v_istore4 {a0 a1 a2 a3 : Option Value} {z : Option Value} {r : List (Option Value)} {x : Int32} (d : decode cc pc = .ok (.istore 4, 2)) (hn : 4 < nL) (k : V X own cc nL ret n1 n2 ad w (pc + 2) (a0 :: a1 :: a2 :: a3 :: some (.int x) :: r) st) : V X own cc nL ret n1 n2 ad w pc (a0 :: a1 :: a2 :: a3 :: z :: r) (.int x :: st) := v_istore d hn k
theorem v_astore4 {a0 a1 a2 a3 : Option Value} {z : Option Value} {r : List (Option Value)} {x : Nat} (d : decode cc pc = .ok (.astore 4, 2)) (hn : 4 < nL) (k : V X own cc nL ret n1 n2 ad w (pc + 2) (a0 :: a1 :: a2 :: a3 :: some (.ref x) :: r) st) : V X own cc nL ret n1 n2 ad w pc (a0 :: a1 :: a2 :: a3 :: z :: r) (.ref x :: st) := v_astore d hn k
theorem v_iinc4 {a0 a1 a2 a3 : Option Value} {r : List (Option Value)} {n : Int} {x v : Int32} (d : decode cc pc = .ok (.iinc 4 n, 3)) (hv : Int32.ofInt n = v) (hn : 4 < nL) (k : V X own cc nL ret n1 n2 ad w (pc + 3) (a0 :: a1 :: a2 :: a3 :: some (.int (x + v)) :: r) st) : V X own cc nL ret n1 n2 ad w pc (a0 :: a1 :: a2 :: a3 :: some (.int x) :: r) st := v_iinc d rfl (by rw [hv]) hn k
theorem v_istore5 {a0 a1 a2 a3 a4 : Option Value} {z : Option Value} {r : List (Option Value)} {x : Int32} (d : decode cc pc = .ok (.istore 5, 2)) (hn : 5 < nL) (k : V X own cc nL ret n1 n2 ad w (pc + 2) (a0 :: a1 :: a2 :: a3 :: a4 :: some (.int x) :: r) st) : V X own cc nL ret n1 n2 ad w pc (a0 :: a1 :: a2 :: a3 :: a4 :: z :: r) (.int x :: st) := v_istore d hn k
theorem v_astore5 {a0 a1 a2 a3 a4 : Option Value} {z : Option Value} {r : List (Option Value)} {x : Nat} (d : decode cc pc = .ok (.astore 5, 2)) (hn : 5 < nL) (k : V X own cc nL ret n1 n2 ad w (pc + 2) (a0 :: a1 :: a2 :: a3 :: a4 :: some (.ref x) :: r) st) : V X own cc nL ret n1 n2 ad w pc (a0 :: a1 :: a2 :: a3 :: a4 :: z :: r) (.ref x :: st) := v_astore d hn k
theorem v_iinc5 {a0 a1 a2 a3 a4 : Option Value} {r : List (Option Value)} {n : Int} {x v : Int32} (d : decode cc pc = .ok (.iinc 5 n, 3)) (hv : Int32.ofInt n = v) (hn : 5 < nL) (k : V X own cc nL ret n1 n2 ad w (pc + 3) (a0 :: a1 :: a2 :: a3 :: a4 :: some (.int (x + v)) :: r) st) : V X own cc nL ret n1 n2 ad w pc (a0 :: a1 :: a2 :: a3 :: a4 :: some (.int x) :: r) st := v_iinc d rfl (by rw [hv]) hn k
theorem v_istore6 {a0 a1 a2 a3 a4 a5 : Option Value} {z : Option Value} {r : List (Option Value)} {x : Int32} (d : decode cc pc = .ok (.istore 6, 2)) (hn : 6 < nL) (k : V X own cc nL ret n1 n2 ad w (pc + 2) (a0 :: a1 :: a2 :: a3 :: a4 :: a5 :: some (.int x) :: r) st) : V X own cc nL ret n1 n2 ad w pc (a0 :: a1 :: a2 :: a3 :: a4 :: a5 :: z :: r) (.int x :: st) := v_istore d hn k
theorem v_astore6 {a0 a1 a2 a3 a4 a5 : Option Value} {z : Option Value} {r : List (Option Value)} {x : Nat} (d : decode cc pc = .ok (.astore 6, 2)) (hn : 6 < nL) (k : V X own cc nL ret n1 n2 ad w (pc + 2) (a0 :: a1 :: a2 :: a3 :: a4 :: a5 :: some (.ref x) :: r) st) : V X own cc nL ret n1 n2 ad w pc (a0 :: a1 :: a2 :: a3 :: a4 :: a5 :: z :: r) (.ref x :: st) := v_astore d hn k
theorem v_iinc6 {a0 a1 a2 a3 a4 a5 : Option Value} {r : List (Option Value)} {n : Int} {x v : Int32} (d : decode cc pc = .ok (.iinc 6 n, 3)) (hv : Int32.ofInt n = v) (hn : 6 < nL) (k : V X own cc nL ret n1 n2 ad w (pc + 3) (a0 :: a1 :: a2 :: a3 :: a4 :: a5 :: some (.int (x + v)) :: r) st) : V X own cc nL ret n1 n2 ad w pc (a0 :: a1 :: a2 :: a3 :: a4 :: a5 :: some (.int x) :: r) st := v_iinc d rfl (by rw [hv]) hn k
theorem v_istore7 {a0 a1 a2 a3 a4 a5 a6 : Option Value} {z : Option Value} {r : List (Option Value)} {x : Int32} (d : decode cc pc = .ok (.istore 7, 2)) (hn : 7 < nL) (k : V X own cc nL ret n1 n2 ad w (pc + 2) (a0 :: a1 :: a2 :: a3 :: a4 :: a5 :: a6 :: some (.int x) :: r) st) : V X own cc nL ret n1 n2 ad w pc (a0 :: a1 :: a2 :: a3 :: a4 :: a5 :: a6 :: z :: r) (.int x :: st) := v_istore d hn k
theorem v_astore7 {a0 a1 a2 a3 a4 a5 a6 : Option Value} {z : Option Value} {r : List (Option Value)} {x : Nat} (d : decode cc pc = .ok (.astore 7, 2)) (hn : 7 < nL) (k : V X own cc nL ret n1 n2 ad w (pc + 2) (a0 :: a1 :: a2 :: a3 :: a4 :: a5 :: a6 :: some (.ref x) :: r) st) : V X own cc nL ret n1 n2 ad w pc (a0 :: a1 :: a2 :: a3 :: a4 :: a5 :: a6 :: z :: r) (.ref x :: st) := v_astore d hn k
theorem v_iinc7 {a0 a1 a2 a3 a4 a5 a6 : Option Value} {r : List (Option Value)} {n : Int} {x v : Int32} (d : decode cc pc = .ok (.iinc 7 n, 3)) (hv : Int32.ofInt n = v) (hn : 7 < nL) (k : V X own cc nL ret n1 n2 ad w (pc + 3) (a0 :: a1 :: a2 :: a3 :: a4 :: a5 :: a6 :: some (.int (x + v)) :: r) st) : V X own cc nL ret n1 n2 ad w pc (a0 :: a1 :: a2 :: a3 :: a4 :: a5 :: a6 :: some (.int x) :: r) st := v_iinc d rfl (by rw [hv]) hn k
theorem v_istore8 {a0 a1 a2 a3 a4 a5 a6 a7 : Option Value} {z : Option Value} {r : List (Option Value)} {x : Int32} (d : decode cc pc = .ok (.istore 8, 2)) (hn : 8 < nL) (k : V X own cc nL ret n1 n2 ad w (pc + 2) (a0 :: a1 :: a2 :: a3 :: a4 :: a5 :: a6 :: a7 :: some (.int x) :: r) st) : V X own cc nL ret n1 n2 ad w pc (a0 :: a1 :: a2 :: a3 :: a4 :: a5 :: a6 :: a7 :: z :: r) (.int x :: st) := v_istore d hn k
theorem v_astore8 {a0 a1 a2 a3 a4 a5 a6 a7 : Option Value} {z : Option Value} {r : List (Option Value)} {x : Nat} (d : decode cc pc = .ok (.astore 8, 2)) (hn : 8 < nL) (k : V X own cc nL ret n1 n2 ad w (pc + 2) (a0 :: a1 :: a2 :: a3 :: a4 :: a5 :: a6 :: a7 :: some (.ref x) :: r) st) : V X own cc nL ret n1 n2 ad w pc (a0 :: a1 :: a2 :: a3 :: a4 :: a5 :: a6 :: a7 :: z :: r) (.ref x :: st) := v_astore d hn k
theorem v_iinc8 {a0 a1 a2 a3 a4 a5 a6 a7 : Option Value} {r : List (Option Value)} {n : Int} {x v : Int32} (d : decode cc pc = .ok (.iinc 8 n, 3)) (hv : Int32.ofInt n = v) (hn : 8 < nL) (k : V X own cc nL ret n1 n2 ad w (pc + 3) (a0 :: a1 :: a2 :: a3 :: a4 :: a5 :: a6 :: a7 :: some (.int (x + v)) :: r) st) : V X own cc nL ret n1 n2 ad w pc (a0 :: a1 :: a2 :: a3 :: a4 :: a5 :: a6 :: a7 :: some (.int x) :: r) st := v_iinc d rfl (by rw [hv]) hn k
theorem v_iadd {x y : Int32} (d : decode cc pc = .ok (.iadd, 1)) (k : V X own cc nL ret n1 n2 ad w (pc + 1) ls (.int (x + y) :: st)) : V X own cc nL ret n1 n2 ad w pc ls (.int y :: .int x :: st) := by
  obtain ⟨p, l, e, R, s, m, args, below, meth, c, Q, A, D, cy, s0⟩ := X
  intro C H locs la hR hS hA hl
  exact lv_iadd C.1 C.2.1 d (k C H locs la hR hS hA hl)
theorem v_isub {x y : Int32} (d : decode cc pc = .ok (.isub, 1)) (k : V X own cc nL ret n1 n2 ad w (pc + 1) ls (.int (x - y) :: st)) : V X own cc nL ret n1 n2 ad w pc ls (.int y :: .int x :: st) := by
  obtain ⟨p, l, e, R, s, m, args, below, meth, c, Q, A, D, cy, s0⟩ := X
  intro C H locs la hR hS hA hl
  exact lv_isub C.1 C.2.1 d (k C H locs la hR hS hA hl)
theorem v_imul {x y : Int32} (d : decode cc pc = .ok (.imul, 1)) (k : V X own cc nL ret n1 n2 ad w (pc + 1) ls (.int (x * y) :: st)) : V X own cc nL ret n1 n2 ad w pc ls (.int y :: .int x :: st) := by
  obtain ⟨p, l, e, R, s, m, args, below, meth, c, Q, A, D, cy, s0⟩ := X
  intro C H locs la hR hS hA hl
  exact lv_imul C.1 C.2.1 d (k C H locs la hR hS hA hl)
theorem v_iand {x y : Int32} (d : decode cc pc = .ok (.iand, 1)) (k : V X own cc nL ret n1 n2 ad w (pc + 1) ls (.int (x &&& y) :: st)) : V X own cc nL ret n1 n2 ad w pc ls (.int y :: .int x :: st) := by
  obtain ⟨p, l, e, R, s, m, args, below, meth, c, Q, A, D, cy, s0⟩ := X
  intro C H locs la hR hS hA hl
  exact lv_iand C.1 C.2.1 d (k C H locs la hR hS hA hl)
theorem v_ior {x y : Int32} (d : decode cc pc = .ok (.ior, 1)) (k : V X own cc nL ret n1 n2 ad w (pc + 1) ls (.int (x ||| y) :: st)) : V X own cc nL ret n1 n2 ad w pc ls (.int y :: .int x :: st) := by
  obtain ⟨p, l, e, R, s, m, args, below, meth, c, Q, A, D, cy, s0⟩ := X
  intro C H locs la hR hS hA hl
  exact lv_ior C.1 C.2.1 d (k C H locs la hR hS hA hl)
theorem v_ixor {x y : Int32} (d : decode cc pc = .ok (.ixor, 1)) (k : V X own cc nL ret n1 n2 ad w (pc + 1) ls (.int (x ^^^ y) :: st)) : V X own cc nL ret n1 n2 ad w pc ls (.int y :: .int x :: st) := by
  obtain ⟨p, l, e, R, s, m, args, below, meth, c, Q, A, D, cy, s0⟩ := X
  intro C H locs la hR hS hA hl
  exact lv_ixor C.1 C.2.1 d (k C H locs la hR hS hA hl)
theorem v_idiv {x y : Int32} (d : decode cc pc = .ok (.idiv, 1)) (hne : ¬ y = 0) (k : V X own cc nL ret n1 n2 ad w (pc + 1) ls (.int (x / y) :: st)) : V X own cc nL ret n1 n2 ad w pc ls (.int y :: .int x :: st) := by
  obtain ⟨p, l, e, R, s, m, args, below, meth, c, Q, A, D, cy, s0⟩ := X
  intro C H locs la hR hS hA hl
  exact lv_idiv C.1 C.2.1 d hne (k C H locs la hR hS hA hl)
theorem v_irem {x y : Int32} (d : decode cc pc = .ok (.irem, 1)) (hne : ¬ y = 0) (k : V X own cc nL ret n1 n2 ad w (pc + 1) ls (.int (x - x / y * y) :: st)) : V X own cc nL ret n1 n2 ad w pc ls (.int y :: .int x :: st) := by
  obtain ⟨p, l, e, R, s, m, args, below, meth, c, Q, A, D, cy, s0⟩ := X
  intro C H locs la hR hS hA hl
  exact lv_irem C.1 C.2.1 d hne (k C H locs la hR hS hA hl)
theorem v_ishl {x y : Int32} (d : decode cc pc = .ok (.ishl, 1)) (k : V X own cc nL ret n1 n2 ad w (pc + 1) ls (.int (x <<< (y &&& 31)) :: st)) : V X own cc nL ret n1 n2 ad w pc ls (.int y :: .int x :: st) := by
  obtain ⟨p, l, e, R, s, m, args, below, meth, c, Q, A, D, cy, s0⟩ := X
  intro C H locs la hR hS hA hl
  exact lv_ishl C.1 C.2.1 d (k C H locs la hR hS hA hl)
theorem v_ishr {x y : Int32} (d : decode cc pc = .ok (.ishr, 1)) (k : V X own cc nL ret n1 n2 ad w (pc + 1) ls (.int (x >>> (y &&& 31)) :: st)) : V X own cc nL ret n1 n2 ad w pc ls (.int y :: .int x :: st) := by
  obtain ⟨p, l, e, R, s, m, args, below, meth, c, Q, A, D, cy, s0⟩ := X
  intro C H locs la hR hS hA hl
  exact lv_ishr C.1 C.2.1 d (k C H locs la hR hS hA hl)
theorem v_ineg {x : Int32} (d : decode cc pc = .ok (.ineg, 1)) (k : V X own cc nL ret n1 n2 ad w (pc + 1) ls (.int (-x) :: st)) : V X own cc nL ret n1 n2 ad w pc ls (.int x :: st) := by
  obtain ⟨p, l, e, R, s, m, args, below, meth, c, Q, A, D, cy, s0⟩ := X
  intro C H locs la hR hS hA hl
  exact lv_ineg C.1 C.2.1 d (k C H locs la hR hS hA hl)
theorem v_iushr {x y : Int32} (d : decode cc pc = .ok (.iushr, 1)) (k : V X own cc nL ret n1 n2 ad w (pc + 1) ls (.int (x.toUInt32 >>> (y.toUInt32 &&& Int32.toUInt32 31)).toInt32 :: st)) : V X own cc nL ret n1 n2 ad w pc ls (.int y :: .int x :: st) := by
  obtain ⟨p, l, e, R, s, m, args, below, meth, c, Q, A, D, cy, s0⟩ := X
  intro C H locs la hR hS hA hl
  exact lv_iushr C.1 C.2.1 d rfl (k C H locs la hR hS hA hl)
theorem v_i2l {x : Int32} (d : decode cc pc = .ok (.i2l, 1)) (k : V X own cc nL ret n1 n2 ad w (pc + 1) ls (.long x.toInt64 :: st)) : V X own cc nL ret n1 n2 ad w pc ls (.int x :: st) := by
  obtain ⟨p, l, e, R, s, m, args, below, meth, c, Q, A, D, cy, s0⟩ := X
  intro C H locs la hR hS hA hl
  exact lv_i2l C.1 C.2.1 d rfl (k C H locs la hR hS hA hl)
theorem v_dup {a : Value} (d : decode cc pc = .ok (.dup, 1)) (ha : a.category = 1) (k : V X own cc nL ret n1 n2 ad w (pc + 1) ls (a :: a :: st)) : V X own cc nL ret n1 n2 ad w pc ls (a :: st) := by
  obtain ⟨p, l, e, R, s, m, args, below, meth, c, Q, A, D, cy, s0⟩ := X
  intro C H locs la hR hS hA hl
  exact lv_dup C.1 C.2.1 d ha (k C H locs la hR hS hA hl)
theorem v_pop {a : Value} (d : decode cc pc = .ok (.pop, 1)) (ha : a.category = 1) (k : V X own cc nL ret n1 n2 ad w (pc + 1) ls st) : V X own cc nL ret n1 n2 ad w pc ls (a :: st) := by
  obtain ⟨p, l, e, R, s, m, args, below, meth, c, Q, A, D, cy, s0⟩ := X
  intro C H locs la hR hS hA hl
  exact lv_pop C.1 C.2.1 d ha (k C H locs la hR hS hA hl)
theorem v_dup_x1 {a b : Value} (d : decode cc pc = .ok (.dup_x1, 1)) (ha : a.category = 1) (hb : b.category = 1) (k : V X own cc nL ret n1 n2 ad w (pc + 1) ls (a :: b :: a :: st)) : V X own cc nL ret n1 n2 ad w pc ls (a :: b :: st) := by
  obtain ⟨p, l, e, R, s, m, args, below, meth, c, Q, A, D, cy, s0⟩ := X
  intro C H locs la hR hS hA hl
  exact lv_dup_x1 C.1 C.2.1 d ha hb (k C H locs la hR hS hA hl)
theorem v_dup2 {a b : Value} (d : decode cc pc = .ok (.dup2, 1)) (ha : a.category = 1) (hb : b.category = 1) (k : V X own cc nL ret n1 n2 ad w (pc + 1) ls (a :: b :: a :: b :: st)) : V X own cc nL ret n1 n2 ad w pc ls (a :: b :: st) := by
  obtain ⟨p, l, e, R, s, m, args, below, meth, c, Q, A, D, cy, s0⟩ := X
  intro C H locs la hR hS hA hl
  exact lv_dup2_11 C.1 C.2.1 d ha hb (k C H locs la hR hS hA hl)
theorem v_goto {off : Int} {tgt : Nat} (d : decode cc pc = .ok (.goto off, 3)) (ht : (pc : Int) + off = (tgt : Int)) (k : V X own cc nL ret n1 n2 ad w tgt ls st) : V X own cc nL ret n1 n2 ad w pc ls st := by
  obtain ⟨p, l, e, R, s, m, args, below, meth, c, Q, A, D, cy, s0⟩ := X
  intro C H locs la hR hS hA hl
  exact lv_goto C.1 C.2.1 d ht (k C H locs la hR hS hA hl)
theorem v_tableOut {dflt lo hi : Int} {offs : Array Int} {len : Nat} {x : Int32} {tgt : Nat} (d : decode cc pc = .ok (.tableswitch dflt lo hi offs, len)) (h : x.toInt < lo ∨ hi < x.toInt) (ht : (pc : Int) + dflt = (tgt : Int)) (k : V X own cc nL ret n1 n2 ad w tgt ls st) : V X own cc nL ret n1 n2 ad w pc ls (.int x :: st) := by
  obtain ⟨p, l, e, R, s, m, args, below, meth, c, Q, A, D, cy, s0⟩ := X
  intro C H locs la hR hS hA hl
  exact lv_tableOut C.1 C.2.1 d h ht (k C H locs la hR hS hA hl)
theorem v_tableIn {dflt lo hi : Int} {offs : Array Int} {len : Nat} {x : Int32} {off : Int} {tgt : Nat} (d : decode cc pc = .ok (.tableswitch dflt lo hi offs, len)) (h1 : ¬ x.toInt < lo) (h2 : ¬ hi < x.toInt) (ho : offs[(x.toInt - lo).toNat]? = some off) (ht : (pc : Int) + off = (tgt : Int)) (k : V X own cc nL ret n1 n2 ad w tgt ls st) : V X own cc nL ret n1 n2 ad w pc ls (.int x :: st) := by
  obtain ⟨p, l, e, R, s, m, args, below, meth, c, Q, A, D, cy, s0⟩ := X
  intro C H locs la hR hS hA hl
  exact lv_tableIn C.1 C.2.1 d h1 h2 ho ht (k C H locs la hR hS hA hl)
theorem v_if_eq {x : Int32} {off : Int} {tgt : Nat} (d : decode cc pc = .ok (.ifCond .eq off, 3)) (ht : (pc : Int) + off = (tgt : Int)) (kt : x = 0 → V X own cc nL ret n1 n2 ad w tgt ls st) (kf : ¬ x = 0 → V X own cc nL ret n1 n2 ad w (pc + 3) ls st) : V X own cc nL ret n1 n2 ad w pc ls (.int x :: st) := by
  obtain ⟨p, l, e, R, s, m, args, below, meth, c, Q, A, D, cy, s0⟩ := X
  intro C H locs la hR hS hA hl
  exact lv_if_eq C.1 C.2.1 d ht (fun q => kt q C H locs la hR hS hA hl) (fun q => kf q C H locs la hR hS hA hl)
theorem v_if_ne {x : Int32} {off : Int} {tgt : Nat} (d : decode cc pc = .ok (.ifCond .ne off, 3)) (ht : (pc : Int) + off = (tgt : Int)) (kt : ¬ x = 0 → V X own cc nL ret n1 n2 ad w tgt ls st) (kf : x = 0 → V X own cc nL ret n1 n2 ad w (pc + 3) ls st) : V X own cc nL ret n1 n2 ad w pc ls (.int x :: st) := by
  obtain ⟨p, l, e, R, s, m, args, below, meth, c, Q, A, D, cy, s0⟩ := X
  intro C H locs la hR hS hA hl
  exact lv_if_ne C.1 C.2.1 d ht (fun q => kt q C H locs la hR hS hA hl) (fun q => kf q C H locs la hR hS hA hl)
theorem v_if_lt {x : Int32} {off : Int} {tgt : Nat} (d : decode cc pc = .ok (.ifCond .lt off, 3)) (ht : (pc : Int) + off = (tgt : Int)) (kt : x < 0 → V X own cc nL ret n1 n2 ad w tgt ls st) (kf : ¬ x < 0 → V X own cc nL ret n1 n2 ad w (pc + 3) ls st) : V X own cc nL ret n1 n2 ad w pc ls (.int x :: st) := by
  obtain ⟨p, l, e, R, s, m, args, below, meth, c, Q, A, D, cy, s0⟩ := X
  intro C H locs la hR hS hA hl
  exact lv_if_lt C.1 C.2.1 d ht (fun q => kt q C H locs la hR hS hA hl) (fun q => kf q C H locs la hR hS hA hl)
theorem v_if_ge {x : Int32} {off : Int} {tgt : Nat} (d : decode cc pc = .ok (.ifCond .ge off, 3)) (ht : (pc : Int) + off = (tgt : Int)) (kt : 0 ≤ x → V X own cc nL ret n1 n2 ad w tgt ls st) (kf : ¬ 0 ≤ x → V X own cc nL ret n1 n2 ad w (pc + 3) ls st) : V X own cc nL ret n1 n2 ad w pc ls (.int x :: st) := by
  obtain ⟨p, l, e, R, s, m, args, below, meth, c, Q, A, D, cy, s0⟩ := X
  intro C H locs la hR hS hA hl
  exact lv_if_ge C.1 C.2.1 d ht (fun q => kt q C H locs la hR hS hA hl) (fun q => kf q C H locs la hR hS hA hl)
theorem v_if_gt {x : Int32} {off : Int} {tgt : Nat} (d : decode cc pc = .ok (.ifCond .gt off, 3)) (ht : (pc : Int) + off = (tgt : Int)) (kt : 0 < x → V X own cc nL ret n1 n2 ad w tgt ls st) (kf : ¬ 0 < x → V X own cc nL ret n1 n2 ad w (pc + 3) ls st) : V X own cc nL ret n1 n2 ad w pc ls (.int x :: st) := by
  obtain ⟨p, l, e, R, s, m, args, below, meth, c, Q, A, D, cy, s0⟩ := X
  intro C H locs la hR hS hA hl
  exact lv_if_gt C.1 C.2.1 d ht (fun q => kt q C H locs la hR hS hA hl) (fun q => kf q C H locs la hR hS hA hl)
theorem v_if_le {x : Int32} {off : Int} {tgt : Nat} (d : decode cc pc = .ok (.ifCond .le off, 3)) (ht : (pc : Int) + off = (tgt : Int)) (kt : x ≤ 0 → V X own cc nL ret n1 n2 ad w tgt ls st) (kf : ¬ x ≤ 0 → V X own cc nL ret n1 n2 ad w (pc + 3) ls st) : V X own cc nL ret n1 n2 ad w pc ls (.int x :: st) := by
  obtain ⟨p, l, e, R, s, m, args, below, meth, c, Q, A, D, cy, s0⟩ := X
  intro C H locs la hR hS hA hl
  exact lv_if_le C.1 C.2.1 d ht (fun q => kt q C H locs la hR hS hA hl) (fun q => kf q C H locs la hR hS hA hl)
theorem v_icmp_eq {x y : Int32} {off : Int} {tgt : Nat} (d : decode cc pc = .ok (.if_icmp .eq off, 3)) (ht : (pc : Int) + off = (tgt : Int)) (kt : x = y → V X own cc nL ret n1 n2 ad w tgt ls st) (kf : ¬ x = y → V X own cc nL ret n1 n2 ad w (pc + 3) ls st) : V X own cc nL ret n1 n2 ad w pc ls (.int y :: .int x :: st) := by
  obtain ⟨p, l, e, R, s, m, args, below, meth, c, Q, A, D, cy, s0⟩ := X
  intro C H locs la hR hS hA hl
  exact lv_icmp_eq C.1 C.2.1 d ht (fun q => kt q C H locs la hR hS hA hl) (fun q => kf q C H locs la hR hS hA hl)
theorem v_icmp_ne {x y : Int32} {off : Int} {tgt : Nat} (d : decode cc pc = .ok (.if_icmp .ne off, 3)) (ht : (pc : Int) + off = (tgt : Int)) (kt : ¬ x = y → V X own cc nL ret n1 n2 ad w tgt ls st) (kf : x = y → V X own cc nL ret n1 n2 ad w (pc + 3) ls st) : V X own cc nL ret n1 n2 ad w pc ls (.int y :: .int x :: st) := by
  obtain ⟨p, l, e, R, s, m, args, below, meth, c, Q, A, D, cy, s0⟩ := X
  intro C H locs la hR hS hA hl
  exact lv_icmp_ne C.1 C.2.1 d ht (fun q => kt q C H locs la hR hS hA hl) (fun q => kf q C H locs la hR hS hA hl)
theorem v_icmp_lt {x y : Int32} {off : Int} {tgt : Nat} (d : decode cc pc = .ok (.if_icmp .lt off, 3)) (ht : (pc : Int) + off = (tgt : Int)) (kt : x < y → V X own cc nL ret n1 n2 ad w tgt ls st) (kf : ¬ x < y → V X own cc nL ret n1 n2 ad w (pc + 3) ls st) : V X own cc nL ret n1 n2 ad w pc ls (.int y :: .int x :: st) := by
  obtain ⟨p, l, e, R, s, m, args, below, meth, c, Q, A, D, cy, s0⟩ := X
  intro C H locs la hR hS hA hl
  exact lv_icmp_lt C.1 C.2.1 d ht (fun q => kt q C H locs la hR hS hA hl) (fun q => kf q C H locs la hR hS hA hl)
theorem v_icmp_ge {x y : Int32} {off : Int} {tgt : Nat} (d : decode cc pc = .ok (.if_icmp .ge off, 3)) (ht : (pc : Int) + off = (tgt : Int)) (kt : y ≤ x → V X own cc nL ret n1 n2 ad w tgt ls st) (kf : ¬ y ≤ x → V X own cc nL ret n1 n2 ad w (pc + 3) ls st) : V X own cc nL ret n1 n2 ad w pc ls (.int y :: .int x :: st) := by
  obtain ⟨p, l, e, R, s, m, args, below, meth, c, Q, A, D, cy, s0⟩ := X
  intro C H locs la hR hS hA hl
  exact lv_icmp_ge C.1 C.2.1 d ht (fun q => kt q C H locs la hR hS hA hl) (fun q => kf q C H locs la hR hS hA hl)
theorem v_icmp_gt {x y : Int32} {off : Int} {tgt : Nat} (d : decode cc pc = .ok (.if_icmp .gt off, 3)) (ht : (pc : Int) + off = (tgt : Int)) (kt : y < x → V X own cc nL ret n1 n2 ad w tgt ls st) (kf : ¬ y < x → V X own cc nL ret n1 n2 ad w (pc + 3) ls st) : V X own cc nL ret n1 n2 ad w pc ls (.int y :: .int x :: st) := by
  obtain ⟨p, l, e, R, s, m, args, below, meth, c, Q, A, D, cy, s0⟩ := X
  intro C H locs la hR hS hA hl
  exact lv_icmp_gt C.1 C.2.1 d ht (fun q => kt q C H locs la hR hS hA hl) (fun q => kf q C H locs la hR hS hA hl)
theorem v_icmp_le {x y : Int32} {off : Int} {tgt : Nat} (d : decode cc pc = .ok (.if_icmp .le off, 3)) (ht : (pc : Int) + off = (tgt : Int)) (kt : x ≤ y → V X own cc nL ret n1 n2 ad w tgt ls st) (kf : ¬ x ≤ y → V X own cc nL ret n1 n2 ad w (pc + 3) ls st) : V X own cc nL ret n1 n2 ad w pc ls (.int y :: .int x :: st) := by
  obtain ⟨p, l, e, R, s, m, args, below, meth, c, Q, A, D, cy, s0⟩ := X
  intro C H locs la hR hS hA hl
  exact lv_icmp_le C.1 C.2.1 d ht (fun q => kt q C H locs la hR hS hA hl) (fun q => kf q C H locs la hR hS hA hl)
theorem v_widen {k1 k2 : Nat} (h1 : n1 ≤ k1) (h2 : n2 ≤ k2) (k : V X own cc nL ret k1 k2 ad w pc ls st) : V X own cc nL ret n1 n2 ad w pc ls st := by
  obtain ⟨p, l, e, R, s, m, args, below, meth, c, Q, A, D, cy, s0⟩ := X
  intro C H locs la hR hS hA hl
  exact W.widen h1 h2 (k C H locs la hR hS hA hl)
theorem v_topi {x : Int32} (k : ∀ y : Int32, y = x → V X own cc nL ret n1 n2 ad w pc ls (.int y :: st)) : V X own cc nL ret n1 n2 ad w pc ls (.int x :: st) := k x rfl
theorem v_eq {x y : Int32} (h : x = y) (k : V X own cc nL ret n1 n2 ad w pc ls (.int y :: st)) : V X own cc nL ret n1 n2 ad w pc ls (.int x :: st) := h ▸ k
theorem v_w {w2 : zW} (h : w = w2) (k : V X own cc nL ret n1 n2 ad w2 pc ls st) : V X own cc nL ret n1 n2 ad w pc ls st := h ▸ k
end
