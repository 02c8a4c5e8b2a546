theorem zM.mono {l : Launch} {D : va_G} {cy : Nat → ClassId} {s0 : State} {y : MethodName} {cc : ByteArray} {nL : Nat} {ret : Option FieldType} {d mc ms : Nat} {av : List Value} {ad : zA} {w : zW} {P P2 : Option Value → zA → zW → Prop} (h : zM l D cy s0 y cc nL ret d mc ms av ad w P) (hp : ∀ r ad w, P r ad w → P2 r ad w) : zM l D cy s0 y cc nL ret d mc ms av ad w P2 := by
  intro sz p e ha hc hk s m args below hf happ hP hK
  obtain ⟨n, o, h1, h2, h3, ⟨⟨r, ad2, w2, g1, g2, g3⟩, g4⟩, h5⟩ := h sz p e ha hc hk s m args below hf happ hP hK
  exact ⟨n, o, h1, h2, h3, ⟨⟨r, ad2, w2, g1, hp r ad2 w2 g2, g3⟩, g4⟩, h5⟩
theorem lw_ca0 : Cond.castable RX2 "java/lang/Object" ∈ lw_tbl := lw_m (i := 1153) (by decide +kernel)
theorem lw_ca1 : Cond.castable RX3 "java/lang/Object" ∈ lw_tbl := lw_m (i := 1154) (by decide +kernel)
theorem lw_ca2 : Cond.castable RX7 "java/lang/Object" ∈ lw_tbl := lw_m (i := 1155) (by decide +kernel)
theorem lw_ca3 : Cond.castable RX6 "java/lang/Object" ∈ lw_tbl := lw_m (i := 1156) (by decide +kernel)
theorem lw_ca4 : Cond.castable RX0 "java/lang/Object" ∈ lw_tbl := lw_m (i := 1158) (by decide +kernel)
theorem lw_ca5 : Cond.castable RX1 "java/lang/Object" ∈ lw_tbl := lw_m (i := 1159) (by decide +kernel)
theorem dfX2 : ∀ j, j < 4 → defaultValue (tyX2 j) = vp_V [.int 0, .int 0, .int 0, .int 0] j := by
  intro j hj
  rcases (by omega : j = 0 ∨ j = 1 ∨ j = 2 ∨ j = 3) with rfl | rfl | rfl | rfl <;> rfl
theorem dfX3 : ∀ j, j < 1 → defaultValue (tyX3 j) = vp_V [.int 0] j := by
  intro j hj
  rcases (by omega : j = 0) with rfl <;> rfl
theorem dfX7 : ∀ j, j < 7 → defaultValue (tyX7 j) = vp_V [.int 0, .int 0, .int 0, .int 0, .int 0, .int 0, .int 0] j := by
  intro j hj
  rcases (by omega : j = 0 ∨ j = 1 ∨ j = 2 ∨ j = 3 ∨ j = 4 ∨ j = 5 ∨ j = 6) with rfl | rfl | rfl | rfl | rfl | rfl | rfl <;> rfl
theorem dfX6 : ∀ j, j < 8 → defaultValue (tyX6 j) = vp_V [.int 0, .int 0, .int 0, .int 0, .null, .int 0, .int 0, .int 0] j := by
  intro j hj
  rcases (by omega : j = 0 ∨ j = 1 ∨ j = 2 ∨ j = 3 ∨ j = 4 ∨ j = 5 ∨ j = 6 ∨ j = 7) with rfl | rfl | rfl | rfl | rfl | rfl | rfl | rfl <;> rfl
theorem dfX0 : ∀ j, j < 6 → defaultValue (tyX0 j) = vp_V [.int 0, .int 0, .int 0, .int 0, .int 0, .int 0] j := by
  intro j hj
  rcases (by omega : j = 0 ∨ j = 1 ∨ j = 2 ∨ j = 3 ∨ j = 4 ∨ j = 5) with rfl | rfl | rfl | rfl | rfl | rfl <;> rfl
theorem dfX1 : ∀ j, j < 3 → defaultValue (tyX1 j) = vp_V [.int 0, .int 0, .int 0] j := by
  intro j hj
  rcases (by omega : j = 0 ∨ j = 1 ∨ j = 2) with rfl | rfl | rfl <;> rfl
theorem dfJx4a65c : ∀ j, j < 3 → defaultValue (tyJx4a65c j) = vp_V [.int 0, .null, .int 0] j := by
  intro j hj
  rcases (by omega : j = 0 ∨ j = 1 ∨ j = 2) with rfl | rfl | rfl <;> rfl
theorem dfX8 : ∀ j, j < 1 → defaultValue (tyX8 j) = vp_V [.null] j := by
  intro j hj
  rcases (by omega : j = 0) with rfl <;> rfl
theorem dfX4 : ∀ j, j < 8 → defaultValue (tyX4 j) = vp_V [.null, .null, .null, .null, .null, .null, .int 0, .int 0] j := by
  intro j hj
  rcases (by omega : j = 0 ∨ j = 1 ∨ j = 2 ∨ j = 3 ∨ j = 4 ∨ j = 5 ∨ j = 6 ∨ j = 7) with rfl | rfl | rfl | rfl | rfl | rfl | rfl | rfl <;> rfl
theorem dfX5 : ∀ j, j < 7 → defaultValue (tyX5 j) = vp_V [.null, .null, .null, .null, .int 0, .int 0, .int 0] j := by
  intro j hj
  rcases (by omega : j = 0 ∨ j = 1 ∨ j = 2 ∨ j = 3 ∨ j = 4 ∨ j = 5 ∨ j = 6) with rfl | rfl | rfl | rfl | rfl | rfl | rfl <;> rfl
theorem dfX9 : ∀ j, j < 14 → defaultValue (tyX9 j) = vp_V [.null, .null, .null, .null, .null, .null, .null, .null, .null, .null, .int 0, .int 0, .int 0, .int 0] j := by
  intro j hj
  rcases (by omega : j = 0 ∨ j = 1 ∨ j = 2 ∨ j = 3 ∨ j = 4 ∨ j = 5 ∨ j = 6 ∨ j = 7 ∨ j = 8 ∨ j = 9 ∨ j = 10 ∨ j = 11 ∨ j = 12 ∨ j = 13) with rfl | rfl | rfl | rfl | rfl | rfl | rfl | rfl | rfl | rfl | rfl | rfl | rfl | rfl <;> rfl
def XZ (s0 : State) (cp : Nat → Nat) (ad : zA) : Prop := ∀ k, k < 6 → cp k = 0 → zSt s0 (ad 7 k)
theorem smI_congr {f g : Nat → Int32} : ∀ {n : Nat}, (∀ i, i < n → f i = g i) → smI f n = smI g n
  | 0, _ => rfl
  | n + 1, h => by
    rw [smI, smI, smI_congr (fun i hi => h i (by omega)), h n (by omega)]
theorem XI.add {N N2 : Nat → Nat} {ar ar2 : Nat → Nat → Int32} {cp cn al : Nat → Nat} {q3 pa : Nat → Nat → Int32} {pn : Nat → Nat} {k n cpx : Nat} (h : XI N ar cp cn al q3 pa pn) (hk : k < 6) (hk3 : k ≠ 3) (hn : cn k = n) (hx : n + 1 ≤ cpx ∧ cpx ≤ 1000) (hN : ∀ c, c < 6 → N2 (c + 2) = if c = k then n + 1 else N (c + 2)) (h26 : ar2 26 = ar 26) (h28 : ar2 28 = ar 28) (h30 : ar2 30 = ar 30) (h22 : ∀ q i, q < N 5 → i < pn q → ar2 22 (cl (ar 30 (4 * q + i))) = ar 22 (cl (ar 30 (4 * q + i)))) : XI N2 ar2 (uN cp k cpx) (uN cn k (n + 1)) (uN al k (n + 1)) q3 pa pn := by
  obtain ⟨⟨c0, c1, c2, c3, c4, c5⟩, hx2, hq⟩ := h
  have hc : ∀ c, c < 6 → cn c = N (c + 2) := fun c hc => by
    rcases (by omega : c = 0 ∨ c = 1 ∨ c = 2 ∨ c = 3 ∨ c = 4 ∨ c = 5) with rfl | rfl | rfl | rfl | rfl | rfl
    · exact c0
    · exact c1
    · exact c2
    · exact c3
    · exact c4
    · exact c5
  have hc2 : ∀ c, c < 6 → uN cn k (n + 1) c = N2 (c + 2) := fun c hc3 => by
    rw [hN c hc3]; unfold uN
    by_cases e : c = k
    · rw [if_pos e, if_pos e]
    · rw [if_neg e, if_neg e]; exact hc c hc3
  refine ⟨⟨hc2 0 (by decide), hc2 1 (by decide), hc2 2 (by decide), hc2 3 (by decide), hc2 4 (by decide), hc2 5 (by decide)⟩, fun c hc3 => ?_, fun q hq2 => ?_⟩
  · unfold uN
    by_cases e : c = k
    · rw [if_pos e, if_pos e, if_pos e]; exact ⟨rfl, hx⟩
    · rw [if_neg e, if_neg e, if_neg e]; exact hx2 c hc3
  · have e5 : N2 5 = N 5 := by have := hN 3 (by decide); rw [if_neg (Ne.symm hk3)] at this; exact this
    rw [e5] at hq2
    obtain ⟨k1, k2, k3, k4, k5, k6⟩ := hq q hq2
    rw [h26, h28, h30]
    exact ⟨k1, k2, k3, k4, k5.trans (smI_congr (fun i hi => (h22 q i hq2 hi).symm)), k6⟩
theorem XI.same {N N2 : Nat → Nat} {ar ar2 : Nat → Nat → Int32} {cp cn al : Nat → Nat} {q3 pa : Nat → Nat → Int32} {pn : Nat → Nat} (h : XI N ar cp cn al q3 pa pn) (hN : ∀ j, 2 ≤ j → j ≤ 7 → N2 j = N j) (h22 : ar2 22 = ar 22) (h26 : ar2 26 = ar 26) (h28 : ar2 28 = ar 28) (h30 : ar2 30 = ar 30) : XI N2 ar2 cp cn al q3 pa pn := by
  obtain ⟨⟨c0, c1, c2, c3, c4, c5⟩, hx2, hq⟩ := h
  refine ⟨⟨by rw [hN 2 (by decide) (by decide)]; exact c0, by rw [hN 3 (by decide) (by decide)]; exact c1, by rw [hN 4 (by decide) (by decide)]; exact c2, by rw [hN 5 (by decide) (by decide)]; exact c3, by rw [hN 6 (by decide) (by decide)]; exact c4, by rw [hN 7 (by decide) (by decide)]; exact c5⟩, hx2, fun q hq2 => ?_⟩
  rw [hN 5 (by decide) (by decide)] at hq2
  rw [h22, h26, h28, h30]
  exact hq q hq2
theorem MI.cl {N : Nat → Nat} {sc : Nat → Int32} {ar : Nat → Nat → Int32} (h : MI N sc ar) {j : Nat} (h1 : 2 ≤ j) (h2 : j ≤ 10) : cl (sc j) = N j := by
  obtain ⟨⟨hN, b⟩, -⟩ := h
  rw [hN j h1 h2]
  refine cl_nI ?_
  rcases (by omega : j = 2 ∨ j = 3 ∨ j = 4 ∨ j = 5 ∨ j = 6 ∨ j = 7 ∨ j = 8 ∨ j = 9 ∨ j = 10) with rfl | rfl | rfl | rfl | rfl | rfl | rfl | rfl | rfl <;> omega
def clP (cy : Nat → ClassId) (ad : zA) (s0 : State) (S : zRs) : Option Value → zA → zW → Prop := fun r ad2 w2 => r = some (.int S.1) ∧ ad2 0 0 = ad 0 0 ∧ ∃ (tau2 : Nat → Nat → Int32) (js2 mo2 : Nat → Int32) (cp2 cn2 al2 : Nat → Nat) (q32 pa2 : Nat → Nat → Int32) (pn2 : Nat → Nat), w2 = xW cy ad2 S.2.1 S.2.2 tau2 js2 mo2 cp2 cn2 al2 q32 pa2 pn2 ∧ XI (fun j => cl (S.2.1 j)) S.2.2 cp2 cn2 al2 q32 pa2 pn2 ∧ XZ s0 cp2 ad2
theorem clP_same {s0 : State} {cy : Nat → ClassId} {ad : zA} {sc : Nat → Int32} {ar tau : Nat → Nat → Int32} {js mo : Nat → Int32} {cp cn al : Nat → Nat} {q3 pa : Nat → Nat → Int32} {pn : Nat → Nat} {N : Nat → Nat} {v : Int32} {sc2 : Nat → Int32} {ar2 : Nat → Nat → Int32} {S : zRs} (hI : MI N sc ar) (hJ : XI N ar cp cn al q3 pa pn) (hZ : XZ s0 cp ad) (hS : S = (v, sc2, ar2)) (hsc : ∀ j, 2 ≤ j → j ≤ 7 → sc2 j = sc j) (h22 : ar2 22 = ar 22) (h26 : ar2 26 = ar 26) (h28 : ar2 28 = ar 28) (h30 : ar2 30 = ar 30) : clP cy ad s0 S (some (.int v)) ad (xW cy ad sc2 ar2 tau js mo cp cn al q3 pa pn) := by
  subst hS
  refine ⟨rfl, rfl, tau, js, mo, cp, cn, al, q3, pa, pn, rfl, hJ.same (fun j h1 h2 => ?_) h22 h26 h28 h30, hZ⟩
  show cl (sc2 j) = N j
  rw [hsc j h1 h2]; exact hI.cl h1 (by omega)
set_option maxHeartbeats 4000000 in
set_option maxRecDepth 100000 in
theorem pXadd {l : Launch} {D : va_G} {s0 : State} {cy : Nat → ClassId} {ad : zA} {sc : Nat → Int32} {ar tau : Nat → Nat → Int32} {js mo : Nat → Int32} {cp cn al : Nat → Nat} {q3 pa : Nat → Nat → Int32} {pn : Nat → Nat} {w0 : zW} {ad1 : zA} {k n ci NN : Nat} {C : String} {T : u_T} {ar2 : Nat → Nat → Int32} {q32 pa2 : Nat → Nat → Int32} {pn2 : Nat → Nat} (hG : zG s0) (hk : k < 6) (hc : vwCl[ci]? = some (C, T, NN)) (hca : Cond.castable C "java/lang/Object" ∈ lw_tbl) (haln : al k = n) (hcnn : cn k = n) (hn : n ≤ 200) (hcp : n ≤ cp k) (hcp2 : cp k ≤ 1000) (hZ : XZ s0 cp ad)
    (had1 : ∀ a b, ¬ (a = 8 + k ∧ b = n) → ¬ (k = 3 ∧ a = 14 ∧ b = n) → ad1 a b = ad a b) (hw0 : ∀ a b, ¬ (a = 8 + k ∧ b = n) → ¬ (k = 3 ∧ a = 14 ∧ b = n) → w0 a b = xW cy ad sc ar tau js mo cp cn al q3 pa pn a b)
    (hobj : ∀ (ad2 : zA) (cpx : Nat), agx k ad1 ad2 → w0 (8 + k) n = xW cy ad2 sc ar2 tau js (upd mo k (mo k + 1)) (uN cp k cpx) (uN cn k (n + 1)) (uN al k (n + 1)) q32 pa2 pn2 (8 + k) n) (h14 : k = 3 → ∀ (ad2 : zA) (cpx : Nat), w0 14 n = xW cy ad2 sc ar2 tau js (upd mo k (mo k + 1)) (uN cp k cpx) (uN cn k (n + 1)) (uN al k (n + 1)) q32 pa2 pn2 14 n) (har : ∀ j i, seen al j i → ar2 j i = ar j i) (hq : ∀ i, i < al 3 → (∀ j, q32 j i = q3 j i) ∧ pa2 i = pa i ∧ pn2 i = pn i) (hel : ∀ i, i ≤ n → ∃ fs : List Value, w0 (8 + k) i = some (.inr (ci, fs))) :
    zM l D cy s0 yJx4a65c_add_9ea2d cJx4a65c_add_9ea2d 2 (some .boolean) 7 1 310 [.ref (ad1 6 k), .ref (ad1 (8 + k) n)] ad1 w0 (fun r ad2 w2 => r = some (.int 1) ∧ agx k ad1 ad2 ∧ ∃ cpx, (n + 1 ≤ cpx ∧ cpx ≤ 1000) ∧ w2 = xW cy ad2 sc ar2 tau js (upd mo k (mo k + 1)) (uN cp k cpx) (uN cn k (n + 1)) (uN al k (n + 1)) q32 pa2 pn2) := by
  have e7 : ad1 7 k = ad 7 k := had1 7 k (by omega) (by omega)
  have ek : ∀ j, j < n → ad1 (8 + k) j = ad (8 + k) j := fun j hj => had1 _ _ (by omega) (by omega)
  have hxe : xEl ad (8 + k) n = xEl ad1 (8 + k) n := by
    funext j; unfold xEl
    by_cases hj : j < n
    · rw [if_pos hj, if_pos hj, ek j hj]
    · rw [if_neg hj, if_neg hj]
  have h6 : w0 6 k = zl (mo k) (ad1 7 k) n := by rw [hw0 6 k (by omega) (by omega), xW_Jx4a65c hk, e7, hcnn]
  have h7 : (cp k = 0 ∧ w0 7 k = none ∧ zSt s0 (ad1 7 k)) ∨ (0 < cp k ∧ w0 7 k = za cy (cp k) (xEl ad1 (8 + k) n)) := by
    rcases Nat.eq_zero_or_pos (cp k) with e | e
    · exact Or.inl ⟨e, by rw [hw0 7 k (by omega) (by omega)]; exact xW_70 e, by rw [e7]; exact hZ k hk e⟩
    · exact Or.inr ⟨e, by rw [hw0 7 k (by omega) (by omega), xW_7 hk e, hcnn, hxe]⟩
  have hA := pJx_add (l := l) (D := D) (k := k) (n := n) (cp := cp k) (mo := mo k) (ad := ad1) (w := w0) (kv := 8 + k) hG (by omega) hc hca h6 h7 hcp hcp2 (by rw [hw0 20 0 (by omega) (by omega)]; exact xA_big (by decide)) hn hel
  refine zM.mono hA ?_
  rintro r ad2 w2 ⟨rfl, had2, cpx, q1, q2, rfl⟩
  refine ⟨rfl, had2, cpx, ⟨q1, q2⟩, ?_⟩
  funext a b
  by_cases x6 : a = 6 ∧ b = k
  · obtain ⟨rfl, rfl⟩ := x6
    rw [zU_s, xW_Jx4a65c hk, uN_s, pk_us]
  rw [zU_n _ _ x6]
  by_cases x7 : a = 7 ∧ b = k
  · obtain ⟨rfl, rfl⟩ := x7
    rw [zU_s, xW_7 hk (by rw [uN_s]; omega), uN_s, uN_s]
  rw [zU_n _ _ x7]
  by_cases x8 : a = 8 + k ∧ b = n
  · obtain ⟨rfl, rfl⟩ := x8
    exact hobj ad2 cpx had2
  by_cases x14 : k = 3 ∧ a = 14 ∧ b = n
  · obtain ⟨e3, rfl, rfl⟩ := x14
    exact h14 e3 ad2 cpx
  rw [hw0 a b x8 x14]
  exact (xW_old hk haln (fun a b y1 y2 y3 y4 => by rw [had2 a b y1 y2]; exact had1 a b y3 y4) har (fun i hi => pk_un hi) (fun i hi => uN_n _ _ hi) (fun i hi => uN_n _ _ hi) (fun i hi => uN_n _ _ hi) (uN_s _ _ _) hq a b x6 x7 x8 x14).symm
