/-- a world with one cell changed -/
def zU (w : zW) (k i : Nat) (c : Option va_E) : zW := fun k' i' => if k' = k ∧ i' = i then c else w k' i'
def zN (ad : zA) (k i q : Nat) : zA := fun k' i' => if k' = k ∧ i' = i then q else ad k' i'
theorem zU_s (w : zW) (k i : Nat) (c : Option va_E) : zU w k i c k i = c := if_pos ⟨rfl, rfl⟩
theorem zU_n (w : zW) {k i k' i' : Nat} (c : Option va_E) (h : ¬ (k' = k ∧ i' = i)) : zU w k i c k' i' = w k' i' := if_neg h
theorem zN_s (ad : zA) (k i q : Nat) : zN ad k i q k i = q := if_pos ⟨rfl, rfl⟩
theorem zN_n (ad : zA) {k i k' i' : Nat} (q : Nat) (h : ¬ (k' = k ∧ i' = i)) : zN ad k i q k' i' = ad k' i' := if_neg h
theorem zR.P {D : va_G} {s0 : State} {ad : zA} {w : zW} {H : Heap} (h : zR D s0 ad w H) {k i : Nat} {c : va_E} (hw : w k i = some c) : va_P D vwCl [(ad k i, c)] H := by
  intro j q hq
  cases j with
  | zero => rw [List.getElem?_cons_zero] at hq; cases hq; exact h.1 k i c hw
  | succ j => simp at hq
theorem zR.put {D : va_G} {s0 : State} {ad : zA} {w : zW} {H H1 : Heap} (h : zR D s0 ad w H) {k i : Nat} {c c1 : va_E} (hw : w k i = some c) (h1 : va_at D vwCl (ad k i, c1) H1) (hz : H1.size = H.size) (ho : ∀ q : Nat, q ≠ ad k i → H1[q]? = H[q]?) : zR D s0 ad (zU w k i (some c1)) H1 := by
  have hn : ∀ k' i', zU w k i (some c1) k' i' ≠ none → w k' i' ≠ none := by
    intro k' i' h9
    by_cases e : k' = k ∧ i' = i
    · rw [e.1, e.2, hw]; exact fun z => by cases z
    · rwa [zU_n _ _ e] at h9
  refine ⟨fun k' i' c' hc' => ?_, fun a b a' b' ha hb he => h.2.1 a b a' b' (hn _ _ ha) (hn _ _ hb) he, ⟨by rw [hz]; exact h.2.2.1.1, fun q hq => by
    have h8 : s0.heap.size ≤ ad k i := h.2.2.2 k i (by rw [hw]; exact fun z => by cases z)
    rw [ho q (by omega)]; exact h.2.2.1.2 q hq⟩, fun a b ha => h.2.2.2 a b (hn _ _ ha)⟩
  by_cases e : k' = k ∧ i' = i
  · obtain ⟨rfl, rfl⟩ := e
    rw [zU_s] at hc'
    cases hc'
    exact h1
  · rw [zU_n _ _ e] at hc'
    refine (h.1 k' i' c' hc').kept (ho _ fun z => e (h.2.1 k' i' k i (by rw [hc']; exact fun z => by cases z) (by rw [hw]; exact fun z => by cases z) z))
theorem zR.lt {D : va_G} {s0 : State} {ad : zA} {w : zW} {H : Heap} (h : zR D s0 ad w H) {k i : Nat} (hw : w k i ≠ none) : ad k i < H.size := by
  cases hc : w k i with
  | none => exact absurd hc hw
  | some c => exact (h.1 k i c hc).lt
theorem zR.new {D : va_G} {s0 : State} {ad : zA} {w : zW} {H H1 : Heap} (h : zR D s0 ad w H) {k i : Nat} {c1 : va_E} (hw : w k i = none) (h1 : va_at D vwCl (H.size, c1) H1) (hz : H.size ≤ H1.size) (ho : ∀ q : Nat, q < H.size → H1[q]? = H[q]?) : zR D s0 (zN ad k i H.size) (zU w k i (some c1)) H1 := by
  have key : ∀ k' i', zU w k i (some c1) k' i' ≠ none → (k' = k ∧ i' = i) ∨ (¬ (k' = k ∧ i' = i) ∧ w k' i' ≠ none) := by
    intro k' i' h9
    by_cases e : k' = k ∧ i' = i
    · exact Or.inl e
    · rw [zU_n _ _ e] at h9; exact Or.inr ⟨e, h9⟩
  refine ⟨fun k' i' c' hc' => ?_, fun a b a' b' ha hb he => ?_, ⟨Nat.le_trans h.2.2.1.1 hz, fun q hq => (ho q (Nat.lt_of_lt_of_le hq h.2.2.1.1)).trans (h.2.2.1.2 q hq)⟩, fun a b ha => ?_⟩
  · by_cases e : k' = k ∧ i' = i
    · obtain ⟨rfl, rfl⟩ := e
      rw [zU_s] at hc'
      cases hc'
      rw [zN_s]
      exact h1
    · rw [zU_n _ _ e] at hc'
      rw [zN_n _ _ e]
      exact (h.1 k' i' c' hc').kept (ho _ (h.lt (by rw [hc']; exact fun z => by cases z)))
  · rcases key _ _ ha with e1 | ⟨e1, e1'⟩ <;> rcases key _ _ hb with e2 | ⟨e2, e2'⟩
    · exact ⟨e1.1.trans e2.1.symm, e1.2.trans e2.2.symm⟩
    · rw [e1.1, e1.2, zN_s, zN_n _ _ e2] at he
      have := h.lt e2'
      omega
    · rw [e2.1, e2.2, zN_s, zN_n _ _ e1] at he
      have := h.lt e1'
      omega
    · rw [zN_n _ _ e1, zN_n _ _ e2] at he
      exact h.2.1 _ _ _ _ e1' e2' he
  · rcases key _ _ ha with e1 | ⟨e1, e1'⟩
    · rw [e1.1, e1.2, zN_s]; exact h.2.2.1.1
    · rw [zN_n _ _ e1]; exact h.2.2.2 _ _ e1'
/-- a cell is dropped from sight -/
theorem zR.drop {D : va_G} {s0 : State} {ad : zA} {w : zW} {H : Heap} (h : zR D s0 ad w H) (k i : Nat) : zR D s0 ad (zU w k i none) H := by
  have hn : ∀ k' i' c, zU w k i none k' i' = some c → w k' i' = some c := by
    intro k' i' c h9
    by_cases e : k' = k ∧ i' = i
    · obtain ⟨rfl, rfl⟩ := e; rw [zU_s] at h9; cases h9
    · rwa [zU_n _ _ e] at h9
  have hn2 : ∀ k' i', zU w k i none k' i' ≠ none → w k' i' ≠ none := by
    intro k' i' h9
    cases hc : zU w k i none k' i' with
    | none => exact absurd hc h9
    | some c => rw [hn _ _ _ hc]; exact fun z => by cases z
  exact ⟨fun a b c hc => h.1 a b c (hn a b c hc), fun a b a' b' ha hb => h.2.1 a b a' b' (hn2 _ _ ha) (hn2 _ _ hb), h.2.2.1, fun a b ha => h.2.2.2 a b (hn2 _ _ ha)⟩
theorem zS.put {w : zW} {ad : zA} {A : Nat → Prop} (h : zS w ad A) {k i : Nat} {c c1 : va_E} (hw : w k i = some c) : zS (zU w k i (some c1)) ad A := by
  intro k' i' h9
  by_cases e : k' = k ∧ i' = i
  · rw [e.1, e.2]; exact h k i (by rw [hw]; exact fun z => by cases z)
  · rw [zU_n _ _ e] at h9; exact h k' i' h9
theorem zS.new {w : zW} {ad : zA} {A : Nat → Prop} (h : zS w ad A) {k i q : Nat} {c1 : va_E} (hq : A q) : zS (zU w k i (some c1)) (zN ad k i q) A := by
  intro k' i' h9
  by_cases e : k' = k ∧ i' = i
  · rw [e.1, e.2, zN_s]; exact hq
  · rw [zU_n _ _ e] at h9; rw [zN_n _ _ e]; exact h k' i' h9
theorem zD1 {A : Nat → Prop} {a : Nat} {c : va_E} (h : A a) : va_D A [(a, c)] := by
  refine ⟨fun i j x y hi hj _ => ?_, fun k q hq => ?_⟩
  · have h1 := (List.getElem?_eq_some_iff.mp hi).1
    have h2 := (List.getElem?_eq_some_iff.mp hj).1
    simp at h1 h2
    omega
  · have h1 := (List.getElem?_eq_some_iff.mp hq).1
    simp at h1
    subst h1
    rw [List.getElem?_cons_zero] at hq; cases hq; exact h
theorem zP1 {D : va_G} {H : Heap} {a : Nat} {c : va_E} (h : va_P D vwCl [(a, c)] H) : va_at D vwCl (a, c) H := h 0 (a, c) rfl
theorem gt_of {w : Cond} (i : Nat) (h : lw_tbl[i]? = some w) (hg : goodWord w = true) : w ∈ gt := List.mem_filter.mpr ⟨List.mem_of_getElem? h, hg⟩
def zcy (X : zX) : Nat → ClassId := X.2.2.2.2.2.2.2.2.2.2.2.2.2.1
section
variable {X : zX} {own : String} {cc : ByteArray} {nL : Nat} {ret : Option FieldType} {n1 n2 : Nat} {ad : zA} {w : zW} {pc : Nat} {ls : List (Option Value)} {st : List Value}
theorem v_get {kk ii ci k N index : Nat} {fs : List Value} {C ref : String} {T : u_T} {v : Value} (hc : vwCl[ci]? = some (C, T, N)) (hin : ∀ x ∈ u_ws C T N, x ∈ gt) (hk : k < N) (hlink : Cond.fieldLink own index ref (T k).2.1 (T k).2.2.1 ∈ gt) (href : (T k).1 = ref) (hw : w kk ii = some (.inr (ci, fs))) (hv : fs[k]? = some v) (d : decode cc pc = .ok (.getfield index, 3)) (kont : V X own cc nL ret n1 n2 ad w (pc + 3) ls (v :: st)) : V X own cc nL ret n1 n2 ad w pc ls (.ref (ad kk ii) :: st) := by
  obtain ⟨p, l, e, R, s, m, args, below, meth, c, Q, A, D, cy, s0⟩ := X
  intro C1 H locs la hR hS hA hl
  exact va_get (D := D) (tys := zT cy) C1.1 C1.2.1 C1.2.2.2.2.2.1 hin C1.2.2.2.2.1 C1.2.2.2.2.2.2.2.1.1 (hR.P hw) 0 rfl hc k hk (C1.2.2.2.2.2.1 _ hlink) (fun x hx => by rw [← href]; exact hx) hv d (kont C1 H locs la hR hS hA hl)
theorem v_put {kk ii ci k N index : Nat} {fs : List Value} {C ref : String} {T : u_T} {ty : FieldType} {v : Value} (ty0 : Nat → FieldType) (hty : ∀ k, k < N → parseFieldDescriptor (T k).2.2.1 = some (ty0 k)) (hnm : ∀ a, a < N → ∀ b, b < N → a ≠ b → (T a).2.1 ≠ (T b).2.1) (hc : vwCl[ci]? = some (C, T, N)) (hin : ∀ x ∈ u_ws C T N, x ∈ gt) (hk : k < N) (hlink : Cond.fieldLink own index ref (T k).2.1 (T k).2.2.1 ∈ gt) (href : (T k).1 = ref) (hfin : (T k).2.2.2 = false) (hd : parseFieldDescriptor (T k).2.2.1 = some ty) (hn : narrow ty v = v) (hfit : fits ty v = true) (hw : w kk ii = some (.inr (ci, fs))) (hl2 : k < fs.length) (d : decode cc pc = .ok (.putfield index, 3)) (kont : V X own cc nL ret n1 n2 ad (zU w kk ii (some (.inr (ci, fs.set k v)))) (pc + 3) ls st) : V X own cc nL ret n1 n2 ad w pc ls (v :: .ref (ad kk ii) :: st) := by
  obtain ⟨p, l, e, R, s, m, args, below, meth, c, Q, A, D, cy, s0⟩ := X
  intro C1 H locs la hR hS hA hl
  have hnn : w kk ii ≠ none := by rw [hw]; exact fun z => by cases z
  obtain ⟨r, h1, cell, q1, q2, q3, q4⟩ := hR.1 kk ii _ hw
  have hr : r = (C, T, N) := Option.some.inj (h1.symm.trans hc)
  subst hr
  have hts := C1.2.2.2.2.2.1
  have hKK : va_K D vwCl (zT cy) s := C1.2.2.2.2.2.2.2.1.1
  have hap := va_apart (own := own) hts hin ty0 hty hnm hKK hc
  obtain ⟨hSl, hfc, kC, hkC, hkind⟩ := hKK.1 ci _ hc
  obtain ⟨cf, kf, fi, f, hi, hsl⟩ := hSl k hk
  have hlay := hts _ (hin _ (u_in_lay hk))
  unfold u_lay at hlay
  rw [if_neg (by rw [hfin]; decide)] at hlay
  have hst := (u_facts hfc hkC (u_lays hts hin hk) hi).1
  have h6 := u_store hfc hkC hkind hlay hi hd hn hfit
  have hi2 : s.fieldFound? ref (T k).2.1 (T k).2.2.1 = some (cf, kf, fi, f) := by rw [← href]; exact hi
  refine W.putK C1.1 C1.2.1 (f := f) ⟨C1.2.2.2.2.1, hts _ hlink, ⟨_, _, _, hi2⟩, hst⟩ (by rw [q2]; exact h6) q1 q3 (by rw [hsl]; exact k2_hasslot (q4 k hk)) rfl rfl d fun H' e1 e2 e3 => ?_
  rw [hsl] at e1 ⊢
  exact kont C1 H' _ la (hR.put hw ⟨_, hc, t_OB.to (V := updV (vp_V fs) k v) ⟨_, e1, q2, q3, t_set q4 hap hk v⟩ (fun j _ => vp_updV_set hl2 v j)⟩ e2 e3) (hS.put hw) (hA.put e2 e3 (hS _ _ hnn)) hl
theorem v_putF {kk ii ci k N index : Nat} {fs : List Value} {C ref : String} {T : u_T} {ty : FieldType} {v : Value} (hin2 : (X.2.2.2.2.2.2.2.2.1).name = "<init>") (ty0 : Nat → FieldType) (hty : ∀ k, k < N → parseFieldDescriptor (T k).2.2.1 = some (ty0 k)) (hnm : ∀ a, a < N → ∀ b, b < N → a ≠ b → (T a).2.1 ≠ (T b).2.1) (hc : vwCl[ci]? = some (C, T, N)) (hin : ∀ x ∈ u_ws C T N, x ∈ gt) (hk : k < N) (hlink : Cond.fieldLink own index ref (T k).2.1 (T k).2.2.1 ∈ gt) (href : (T k).1 = ref) (hfin : (T k).2.2.2 = true) (hdecl : (T k).1 = own) (hd : parseFieldDescriptor (T k).2.2.1 = some ty) (hn : narrow ty v = v) (hfit : fits ty v = true) (hw : w kk ii = some (.inr (ci, fs))) (hl2 : k < fs.length) (d : decode cc pc = .ok (.putfield index, 3)) (kont : V X own cc nL ret n1 n2 ad (zU w kk ii (some (.inr (ci, fs.set k v)))) (pc + 3) ls st) : V X own cc nL ret n1 n2 ad w pc ls (v :: .ref (ad kk ii) :: st) := by
  obtain ⟨p, l, e, R, s, m, args, below, meth, c, Q, A, D, cy, s0⟩ := X
  intro C1 H locs la hR hS hA hl
  have hnn : w kk ii ≠ none := by rw [hw]; exact fun z => by cases z
  obtain ⟨r, h1, cell, q1, q2, q3, q4⟩ := hR.1 kk ii _ hw
  have hr : r = (C, T, N) := Option.some.inj (h1.symm.trans hc)
  subst hr
  have hts := C1.2.2.2.2.2.1
  have hKK : va_K D vwCl (zT cy) s := C1.2.2.2.2.2.2.2.1.1
  have hap := va_apart (own := own) hts hin ty0 hty hnm hKK hc
  obtain ⟨hSl, hfc, kC, hkC, hkind⟩ := hKK.1 ci _ hc
  obtain ⟨cf, kf, fi, f, hi, hsl⟩ := hSl k hk
  have hlay := hts _ (hin _ (u_in_lay hk))
  unfold u_lay at hlay
  rw [if_pos hfin] at hlay
  have hst := (u_facts hfc hkC (u_lays hts hin hk) hi).1
  have hcf : m.cls = cf := by
    obtain ⟨_, _, c', _, _, _, -, -, hf', -, -, -, hown2, -⟩ := Cond.laysFinal_spec hlay
    have e1 : c' = cf := by have := hi.symm.trans hf'; simp at this; exact this.1.symm
    rw [hdecl] at hown2
    rw [← e1]; exact Option.some.inj (C1.2.2.2.2.1.symm.trans hown2)
  have h6 := u_fits hfc hkC hkind (Or.inr hlay) hi hd hn hfit
  have hi2 : s.fieldFound? ref (T k).2.1 (T k).2.2.1 = some (cf, kf, fi, f) := by rw [← href]; exact hi
  refine W.putFinK C1.1 C1.2.1 C1.2.2.2.2.1 (hts _ hlink) hi2 hst hcf hin2 (by rw [q2]; exact h6) q1 q3 (by rw [hsl]; exact k2_hasslot (q4 k hk)) rfl rfl d fun H' e1 e2 e3 => ?_
  rw [hsl] at e1 ⊢
  exact kont C1 H' _ la (hR.put hw ⟨_, hc, t_OB.to (V := updV (vp_V fs) k v) ⟨_, e1, q2, q3, t_set q4 hap hk v⟩ (fun j _ => vp_updV_set hl2 v j)⟩ e2 e3) (hS.put hw) (hA.put e2 e3 (hS _ _ hnn)) hl
theorem v_iald {kk ii n : Nat} {f : Nat → Int32} {i : Int32} (hw : w kk ii = some (.inl (zcy X 0, n, .inl f))) (hi : vp_in i n) (d : decode cc pc = .ok (.iaload, 1)) (kont : V X own cc nL ret n1 n2 ad w (pc + 1) ls (.int (f i.toNatClampNeg) :: st)) : V X own cc nL ret n1 n2 ad w pc ls (.int i :: .ref (ad kk ii) :: st) := by
  obtain ⟨p, l, e, R, s, m, args, below, meth, c, Q, A, D, cy, s0⟩ := X
  intro C1 H locs la hR hS hA hl
  exact va_iald (D := D) C1.1 C1.2.1 C1.2.2.2.2.2.2.2.1.1 (hR.P hw) 0 0 rfl rfl hi d (kont C1 H locs la hR hS hA hl)
theorem v_zald {kk ii n : Nat} {f : Nat → Int32} {i : Int32} (hw : w kk ii = some (.inl (zcy X 1, n, .inl f))) (hi : vp_in i n) (d : decode cc pc = .ok (.baload, 1)) (kont : V X own cc nL ret n1 n2 ad w (pc + 1) ls (.int (f i.toNatClampNeg) :: st)) : V X own cc nL ret n1 n2 ad w pc ls (.int i :: .ref (ad kk ii) :: st) := by
  obtain ⟨p, l, e, R, s, m, args, below, meth, c, Q, A, D, cy, s0⟩ := X
  intro C1 H locs la hR hS hA hl
  exact va_zald (D := D) C1.1 C1.2.1 C1.2.2.2.2.2.2.2.1.1 (hR.P hw) 0 1 rfl rfl hi d (kont C1 H locs la hR hS hA hl)
theorem v_alen {kk ii t : Nat} {x : vp_A} (ht : t < 4) (hw : w kk ii = some (.inl (zcy X t, x))) (d : decode cc pc = .ok (.arraylength, 1)) (kont : V X own cc nL ret n1 n2 ad w (pc + 1) ls (.int (nI x.1) :: st)) : V X own cc nL ret n1 n2 ad w pc ls (.ref (ad kk ii) :: st) := by
  obtain ⟨p, l, e, R, s, m, args, below, meth, c, Q, A, D, cy, s0⟩ := X
  intro C1 H locs la hR hS hA hl
  have hKK : va_K D vwCl (zT cy) s := C1.2.2.2.2.2.2.2.1.1
  rcases (by omega : t = 0 ∨ t = 1 ∨ t = 2 ∨ t = 3) with rfl | rfl | rfl | rfl
  · exact va_alen (D := D) C1.1 C1.2.1 hKK (hR.P hw) 0 0 rfl rfl rfl d (kont C1 H locs la hR hS hA hl)
  · exact va_alen (D := D) C1.1 C1.2.1 hKK (hR.P hw) 0 1 rfl rfl rfl d (kont C1 H locs la hR hS hA hl)
  · exact va_alen (D := D) C1.1 C1.2.1 hKK (hR.P hw) 0 2 rfl rfl rfl d (kont C1 H locs la hR hS hA hl)
  · exact va_alen (D := D) C1.1 C1.2.1 hKK (hR.P hw) 0 3 rfl rfl rfl d (kont C1 H locs la hR hS hA hl)
theorem v_iast {kk ii n : Nat} {f : Nat → Int32} {i x : Int32} (hw : w kk ii = some (.inl (zcy X 0, n, .inl f))) (hi : vp_in i n) (d : decode cc pc = .ok (.iastore, 1)) (kont : V X own cc nL ret n1 n2 ad (zU w kk ii (some (.inl (zcy X 0, n, .inl (upd f i.toNatClampNeg x))))) (pc + 1) ls st) : V X own cc nL ret n1 n2 ad w pc ls (.int x :: .int i :: .ref (ad kk ii) :: st) := by
  obtain ⟨p, l, e, R, s, m, args, below, meth, c, Q, A, D, cy, s0⟩ := X
  intro C1 H locs la hR hS hA hl
  have hnn : w kk ii ≠ none := by rw [hw]; exact fun z => by cases z
  have hKK : va_K D vwCl (zT cy) s := C1.2.2.2.2.2.2.2.1.1
  refine W.iast C1.1 C1.2.1 (hR.1 kk ii _ hw) ((hKK.2 0 _ rfl).1 n (fun j => .int (f j))) (fun q => by cases q) (by show ¬ (i < 0 ∨ (arrV _ _ _).slots.size ≤ _); rw [arrV_size]; exact hi) rfl rfl d fun H1 e z oq => ?_
  refine kont C1 H1 _ la (hR.put hw ?_ z oq) (hS.put hw) (hA.put z oq (hS _ _ hnn)) hl
  show H1[ad kk ii]? = some (vp_cell _ _)
  rw [e]
  rw [vp_cell_i, vp_cell_i, arrV_store]
  congr 2
  funext q
  by_cases hq : q = i.toNatClampNeg
  · subst hq
    simp [updV, upd]
  · simp [updV, upd, hq]
theorem v_zast {kk ii n : Nat} {f : Nat → Int32} {i x : Int32} (hw : w kk ii = some (.inl (zcy X 1, n, .inl f))) (hi : vp_in i n) (d : decode cc pc = .ok (.bastore, 1)) (kont : V X own cc nL ret n1 n2 ad (zU w kk ii (some (.inl (zcy X 1, n, .inl (upd f i.toNatClampNeg (vp_nar .boolean x)))))) (pc + 1) ls st) : V X own cc nL ret n1 n2 ad w pc ls (.int x :: .int i :: .ref (ad kk ii) :: st) := by
  obtain ⟨p, l, e, R, s, m, args, below, meth, c, Q, A, D, cy, s0⟩ := X
  intro C1 H locs la hR hS hA hl
  have hnn : w kk ii ≠ none := by rw [hw]; exact fun z => by cases z
  have hKK : va_K D vwCl (zT cy) s := C1.2.2.2.2.2.2.2.1.1
  refine W.zast C1.1 C1.2.1 (hR.1 kk ii _ hw) ((hKK.2 1 _ rfl).1 n (fun j => .int (f j))) (fun q => by cases q) (by show ¬ (i < 0 ∨ (arrV _ _ _).slots.size ≤ _); rw [arrV_size]; exact hi) rfl rfl d fun H1 e z oq => ?_
  refine kont C1 H1 _ la (hR.put hw ?_ z oq) (hS.put hw) (hA.put z oq (hS _ _ hnn)) hl
  show H1[ad kk ii]? = some (vp_cell _ _)
  rw [e]
  rw [vp_cell_i, vp_cell_i, arrV_store]
  congr 2
  funext q
  by_cases hq : q = i.toNatClampNeg
  · subst hq
    simp [updV, upd, vp_nar]
    try rfl
  · simp [updV, upd, hq]
end
/-- contracts -/
def rmD (d mc ms : Nat) : Room := { frames := d, cells := mc, slots := ms, locals := 40 * d }
def zQ (D : va_G) (cy : Nat → ClassId) (s0 : State) (Post : Option Value → zA → zW → Prop) (F : Nat → Prop) : Array Value → State → Outcome → State → Prop := fun _ s oc t => (∃ (r : Option Value) (ad : zA) (w : zW), oc = .returned r ∧ Post r ad w ∧ zR D s0 ad w t.heap ∧ zS w ad F ∧ zK D cy s0 t) ∧ va_F F s t
def zM (l : Launch) (D : va_G) (cy : Nat → ClassId) (s0 : State) (y : MethodName) (cc : ByteArray) (nL : Nat) (ret : Option FieldType) (d mc ms : Nat) (av : List Value) (ad : zA) (w : zW) (Post : Option Value → zA → zW → Prop) : Prop :=
  ∀ sz : Nat, Met l y (gw y cc nL ret) (rmD d mc ms) (va_Pc av (fun U => U.heap.size = sz ∧ zR D s0 ad w U.heap ∧ zK D cy s0 U)) (zQ D cy s0 Post (zF ad w sz)) mc ms (zF ad w sz)
/-- what a method's body knows of where it runs -/
def zB (X : zX) (l : Launch) (D : va_G) (cy : Nat → ClassId) (s0 : State) (d mc ms : Nat) (nm : String) (Post : Option Value → zA → zW → Prop) : Prop := match X with
  | (_, l', _, R, s, _, args, below, meth, _, Q, A, D', cy', s0') => l' = l ∧ D' = D ∧ cy' = cy ∧ s0' = s0 ∧ R = rmD d mc ms ∧ meth.name = nm ∧ Q = MQ below (zQ D cy s0 Post A) args s mc ms A
theorem zB.cy {X : zX} {l : Launch} {D : va_G} {cy : Nat → ClassId} {s0 : State} {d mc ms : Nat} {nm : String} {Post : Option Value → zA → zW → Prop} (h : zB X l D cy s0 d mc ms nm Post) : zcy X = cy := by
  obtain ⟨p, l, e, R, s, m, args, below, meth, c, Q, A, D, cy, s0⟩ := X
  exact h.2.2.1
theorem zB.nm {X : zX} {l : Launch} {D : va_G} {cy : Nat → ClassId} {s0 : State} {d mc ms : Nat} {nm : String} {Post : Option Value → zA → zW → Prop} (h : zB X l D cy s0 d mc ms nm Post) : (X.2.2.2.2.2.2.2.2.1).name = nm := by
  obtain ⟨p, l, e, R, s, m, args, below, meth, c, Q, A, D, cy, s0⟩ := X
  exact h.2.2.2.2.2.1
theorem zK.moved {D : va_G} {cy : Nat → ClassId} {s0 u U : State} (hW : u.WarmedH U.vm) (h : zK D cy s0 u) : zK D cy s0 U := ⟨va_K.moved hW.alike h.1, State.WarmedH.trans h.2.1 hW, h.2.2⟩
theorem zL_entry {av : List Value} {nL : Nat} (hc : ∀ v ∈ av, v.category = 1) (hn : av.length ≤ nL) : (lg_sl av).length = av.length ∧ zL ((lg_sl av ++ List.replicate (nL - (lg_sl av).length) Slot.unset).toArray) nL (av.map some ++ List.replicate (nL - av.length) none) := by
  have e : lg_sl av = av.map Slot.val := by
    clear hn
    induction av with
    | nil => rfl
    | cons a r ih =>
      have h1 := hc a List.mem_cons_self
      have h2 := ih (fun v hv => hc v (List.mem_cons_of_mem _ hv))
      simp only [lg_sl, List.flatMap_cons, List.map_cons] at h2 ⊢
      rw [h2, if_neg (by rw [h1]; decide)]
      rfl
  have hlen : (lg_sl av).length = av.length := by rw [e, List.length_map]
  refine ⟨hlen, ?_⟩
  have h0 := lv_entry av (n := nL) (by rw [hlen]; exact hn)
  refine ⟨⟨h0.1, h0.2.1, fun q hq => ?_⟩, fun v hv => ?_⟩
  · obtain ⟨i, v⟩ := q
    have h1 := zP_mem.mp hq
    by_cases hi : i < av.length
    · rw [List.getElem?_append_left (by rw [List.length_map]; exact hi), List.getElem?_map] at h1
      cases hv : av[i]? with
      | none => rw [hv] at h1; cases h1
      | some z =>
        rw [hv] at h1
        cases h1
        show (_ : Array Slot)[i]? = _
        rw [List.getElem?_toArray, List.getElem?_append_left (by rw [hlen]; exact hi), e, List.getElem?_map, hv]
        rfl
    · rw [List.getElem?_append_right (by rw [List.length_map]; omega)] at h1
      have := List.eq_of_mem_replicate (List.mem_of_getElem? h1)
      cases this
  · rcases List.mem_append.mp hv with h1 | h1
    · obtain ⟨z, h2, h3⟩ := List.mem_map.mp h1
      cases h3
      exact hc _ h2
    · have := List.eq_of_mem_replicate h1
      cases this
theorem zM_of {own : String} {l : Launch} {D : va_G} {cy : Nat → ClassId} {s0 : State} {y : MethodName} {cc : ByteArray} {nL : Nat} {ret : Option FieldType} {d mc ms : Nat} {av : List Value} {ad : zA} {w : zW} {Post : Option Value → zA → zW → Prop} (ho : y.cls = own) (hy : plainName own = true) (hc : ∀ v ∈ av, v.category = 1) (hn : av.length ≤ nL)
    (body : ∀ X : zX, zB X l D cy s0 d mc ms y.name Post → V X own cc nL ret 0 0 ad w 0 (av.map some ++ List.replicate (nL - av.length) none) []) : zM l D cy s0 y cc nL ret d mc ms av ad w Post := by
  intro sz
  subst ho
  refine Met.ofW (cc := cc) (maxL := nL) (ret := ret) hy rfl ?_
  intro p e s m args below meth c s₁ B hml hv
  obtain ⟨rfl, hsz, hR, hK⟩ := hv
  have hts := atoms_spec (ws := gw y cc nL ret) B.pre
  have hown : s.vm.findClass y.cls = some m.cls := findClass_of_methodNamed B.named
  subst hsz
  obtain ⟨e1, e2⟩ := zL_entry hc hn
  have h := body (p, l, e, (headSpec (gw y cc nL ret) (rmD d mc ms)).room, s, m, av.toArray, below, meth, c, MQ below (zQ D cy s0 Post (zF ad w s.heap.size)) av.toArray s mc ms (zF ad w s.heap.size), zF ad w s.heap.size, D, cy, s0) ⟨rfl, rfl, rfl, rfl, rfl, (name_of_methodNamed B.named B.method).1, rfl⟩
    ⟨B.exec, B.bytes, B.returns, hml, hown, fun x hx => hts x (List.mem_cons_of_mem _ hx), B.notSynchronized, hK, fun q hq => Or.inr hq⟩ s.heap [] _ hR (fun k i hk => Or.inl ⟨k, i, hk, rfl⟩) va_S.rf e2
  rw [lg_entry_eq]
  exact h
section
variable {X : zX} {own : String} {cc : ByteArray} {nL : Nat} {n1 n2 : Nat} {ad : zA} {w : zW} {pc : Nat} {ls : List (Option Value)} {st : List Value} {l : Launch} {D : va_G} {cy : Nat → ClassId} {s0 : State} {d mc ms : Nat} {nm : String} {Post : Option Value → zA → zW → Prop}
theorem v_iret {v : Int32} (hB : zB X l D cy s0 d mc ms nm Post) (h1 : n1 ≤ mc) (h2 : n2 ≤ ms) (dd : decode cc pc = .ok (.ireturn, 1)) (hp : Post (some (.int v)) ad w) : V X own cc nL (some .int) n1 n2 ad w pc ls [.int v] := by
  obtain ⟨p, l, e, R, s, m, args, below, meth, c, Q, A, D, cy, s0⟩ := X
  obtain ⟨rfl, rfl, rfl, rfl, rfl, h5, rfl⟩ := hB
  intro C1 H locs la hR hS hA hl
  refine W.widen h1 h2 ?_
  exact W.iret C1.1 C1.2.1 C1.2.2.1 (fun t ht hW => ⟨⟨_, ad, w, rfl, hp, by rw [ht]; exact hR, hS, zK.moved hW C1.2.2.2.2.2.2.2.1⟩, hA.F ht⟩) hA.2.2 dd C1.2.2.2.2.2.2.1
theorem v_zret {v : Int32} (hB : zB X l D cy s0 d mc ms nm Post) (h1 : n1 ≤ mc) (h2 : n2 ≤ ms) (dd : decode cc pc = .ok (.ireturn, 1)) (hn : narrow .boolean (.int v) = .int v) (hp : Post (some (.int v)) ad w) : V X own cc nL (some .boolean) n1 n2 ad w pc ls [.int v] := by
  obtain ⟨p, l, e, R, s, m, args, below, meth, c, Q, A, D, cy, s0⟩ := X
  obtain ⟨rfl, rfl, rfl, rfl, rfl, h5, rfl⟩ := hB
  intro C1 H locs la hR hS hA hl
  refine W.widen h1 h2 ?_
  exact W.zret C1.1 C1.2.1 C1.2.2.1 hn (fun t ht hW => ⟨⟨_, ad, w, rfl, hp, by rw [ht]; exact hR, hS, zK.moved hW C1.2.2.2.2.2.2.2.1⟩, hA.F ht⟩) hA.2.2 dd C1.2.2.2.2.2.2.1
theorem v_vret (hB : zB X l D cy s0 d mc ms nm Post) (h1 : n1 ≤ mc) (h2 : n2 ≤ ms) (dd : decode cc pc = .ok (.return_, 1)) (hp : Post none ad w) : V X own cc nL none n1 n2 ad w pc ls [] := by
  obtain ⟨p, l, e, R, s, m, args, below, meth, c, Q, A, D, cy, s0⟩ := X
  obtain ⟨rfl, rfl, rfl, rfl, rfl, h5, rfl⟩ := hB
  intro C1 H locs la hR hS hA hl
  refine W.widen h1 h2 ?_
  exact W.vret C1.1 C1.2.1 C1.2.2.1 (fun t ht hW => ⟨⟨_, ad, w, rfl, hp, by rw [ht]; exact hR, hS, zK.moved hW C1.2.2.2.2.2.2.2.1⟩, hA.F ht⟩) hA.2.2 dd C1.2.2.2.2.2.2.1
theorem v_aret {a : Nat} {rt : FieldType} (hrt : (∃ n, rt = .object n) ∨ ∃ t, rt = .array t) (hB : zB X l D cy s0 d mc ms nm Post) (h1 : n1 ≤ mc) (h2 : n2 ≤ ms) (dd : decode cc pc = .ok (.areturn, 1)) (hp : Post (some (.ref a)) ad w) : V X own cc nL (some rt) n1 n2 ad w pc ls [.ref a] := by
  obtain ⟨p, l, e, R, s, m, args, below, meth, c, Q, A, D, cy, s0⟩ := X
  obtain ⟨rfl, rfl, rfl, rfl, rfl, h5, rfl⟩ := hB
  intro C1 H locs la hR hS hA hl
  refine W.widen h1 h2 ?_
  exact W.aret C1.1 C1.2.1 C1.2.2.1 hrt (Or.inr ⟨_, rfl⟩) (fun t ht hW => ⟨⟨_, ad, w, rfl, hp, by rw [ht]; exact hR, hS, zK.moved hW C1.2.2.2.2.2.2.2.1⟩, hA.F ht⟩) hA.2.2 dd C1.2.2.2.2.2.2.1
end
